import java.util.List;

/** Scores whose denominators are as great as they get: 48 documents, each word in another number of them. */
public final class BigScoresTest {
    private static final Check CHECK = new Check("BigScoresTest");

    private BigScoresTest() {
    }

    /** Each word is told by how many of the documents have it: many different primes among D + 1. */
    private static final int[] IN = {46, 42, 40, 36, 30, 28, 22, 18, 16, 12, 48, 24, 26, 31, 15, 10};

    private static void fill(Searchcluster x, Model model) {
        for (int key = 0; key < 48; key++) {
            x.erase();
            model.erase();
            for (int from = 0; from < 16; from += 4) {
                int[] words = new int[4];
                for (int i = 0; i < 4; i++) {
                    words[i] = key < IN[from + i] ? from + i : 29;
                }
                x.write(1, words[0], words[1], words[2], words[3]);
                model.write(1, words[0], words[1], words[2], words[3]);
            }
            x.write(0, key % 30, key % 7, key % 11, -1);
            model.write(0, key % 30, key % 7, key % 11, -1);
            x.put(key, false);
            model.put(key, false);
        }
    }

    private static void pose(Searchcluster x, Model model, List<Integer> tokens) {
        for (int token : tokens) {
            x.ask(0, token, -1, -1, -1, -1);
            model.ask(0, token, -1, -1, -1, -1);
        }
    }

    public static void main(String[] args) {
        Searchcluster x = new Searchcluster();
        Model model = new Model();
        x.settle(30);
        model.settle(30);
        fill(x, model);
        CHECK.is("acknowledged", x.beat(6), model.beat(6));
        CHECK.is("documents", x.documents(), 48);
        pose(x, model, List.of(51, 109, 40, 51, 109, 40));
        for (int i = 0; i < 20; i++) {
            pose(x, model, List.of(30 + i % 10, 43));
        }
        pose(x, model, List.of(51, 107, 0, 42, 4, 41, 41));
        CHECK.is("a long question", x.question(0), model.question(0));
        for (int from = 0; from < 48; from += 10) {
            CHECK.is("hits from " + from, x.search(0, from, 10), model.search(0, from, 10));
        }
        CHECK.is("a score beyond 64 bits", x.score(0, 0).length() > 30, true);
        CHECK.is("digest", x.digest(), model.digest());
        x.unask(0, x.ask(0, -1, -1, -1, -1, -1));
        model.unask(0, model.ask(0, -1, -1, -1, -1, -1));
        for (int i = 0; i < 29; i++) {
            pose(x, model, List.of(30 + i % 10, 43));
        }
        pose(x, model, List.of(39));
        CHECK.is("ninety leaves", x.leaves(0), 90);
        CHECK.is("the last leaf", x.leaf(0, 89, 1), model.leaf(0, 89, 1));
        CHECK.is("hits", x.search(0, 0, 10), model.search(0, 0, 10));
        CHECK.is("sound", x.isSound(), true);
        CHECK.end();
    }
}
