/** Promises 1 to 5: a new object and the draft. */
public final class DraftTest {
    private static final Check CHECK = new Check("DraftTest");

    public static void main(String[] args) {
        newObject();
        write();
        fullBody();
        eraseAndFacts();
        CHECK.end();
    }

    private static void newObject() {
        CHECK.promise(1, "Creates five nodes that are up, with empty copies.");
        Searchcluster x = new Searchcluster();
        CHECK.is("draft", x.draft(), "//0/0");
        int[] house = {0, 0, 0, 0, 0, 0, 5, 0, 0, 0, 0, 0};
        for (int what = 0; what < 12; what++) {
            CHECK.is("house " + what, x.house(what), house[what]);
        }
        for (int node = 0; node < 5; node++) {
            CHECK.is("up", x.ofNode(node, 0), 1);
            CHECK.is("links", x.ofNode(node, 2), 4);
            for (int shard = 0; shard < 3; shard++) {
                boolean isMember = (node - shard + 5) % 5 < 3;
                int[] copy = {0, 0, -1, 0, 0, 0, 0, 0, isMember ? 1 : 0, 3, 0};
                for (int what = 0; what < 11; what++) {
                    CHECK.is("copy " + node + " " + shard + " " + what, x.ofCopy(node, shard, what), copy[what]);
                }
            }
            for (int key = 0; key < 48; key++) {
                CHECK.is("document", x.copyOf(node, key), "-");
            }
        }
        CHECK.is("members of shard 0", x.members(4, 0), "0 1 2");
        CHECK.is("members of shard 2", x.members(0, 2), "2 3 4");
        for (int question = 0; question < 3; question++) {
            CHECK.is("question", x.question(question), "");
            CHECK.is("error", x.error(question), 0);
        }
        CHECK.is("sound", x.isSound(), true);
    }

    private static void write() {
        CHECK.promise(5, "Returns the DRAFT as a text.");
        Searchcluster x = new Searchcluster();
        CHECK.is("title", x.write(0, 0, 1, -1, 5), 2);
        CHECK.is("nothing", x.write(0, -1, 7, 7, 7), 2);
        CHECK.is("title to the full", x.write(0, 29, 28, -1, -1), 4);
        CHECK.is("nothing into a full one", x.write(0, -1, 0, 0, 0), 4);
        CHECK.is("body", x.write(1, 3, 4, 5, 6), 4);
        CHECK.is("body", x.write(1, 10, 14, 17, 20), 8);
        CHECK.is("body", x.write(1, 23, 26, 0, 0), 12);
        CHECK.is("body to the full", x.write(1, 0, 0, 0, 0), 16);
        CHECK.is("draft", x.draft(), "ba bi to ti/da di do fa ki lo mo no ro so ba ba ba ba ba ba/0/0");
    }

    private static void fullBody() {
        Searchcluster x = new Searchcluster();
        for (int i = 0; i < 3; i++) {
            x.write(1, 0, 0, 0, 0);
        }
        x.write(1, 0, 0, 0, -1);
        CHECK.is("the 16th word", x.write(1, 0, -1, -1, -1), 16);
    }

    private static void eraseAndFacts() {
        Searchcluster x = new Searchcluster();
        CHECK.is("erase of nothing", x.erase(), 0);
        x.write(0, 1, 2, -1, -1);
        x.write(1, 3, 4, 5, -1);
        CHECK.is("year before", x.facts(99, 5), 0);
        CHECK.is("year before", x.facts(98, 4), 99);
        CHECK.is("draft", x.draft(), "bi bo/da di do/98/4");
        CHECK.is("erase", x.erase(), 5);
        CHECK.is("draft", x.draft(), "//0/0");
        CHECK.is("year before", x.facts(1, 1), 0);
    }
}
