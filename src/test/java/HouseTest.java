import java.util.ArrayList;
import java.util.List;

/** Promises 49 and 52 to 55: the room, the house, knocking, soundness and the digest. */
public final class HouseTest {
    private static final Check CHECK = new Check("HouseTest");

    public static void main(String[] args) {
        room();
        house();
        soundness();
        digest();
        CHECK.end();
    }

    private static void room() {
        Searchcluster x = new Searchcluster();
        CHECK.is("at first", x.room(8), 4);
        CHECK.is("before", x.room(1), 8);
        CHECK.is("before", x.room(1), 1);
        x.settle(30);
        for (int key = 0; key < 9; key++) {
            x.put(key, false);
        }
        x.beat(2);
        x.pack(0);
        x.save(1);
        CHECK.is("it changes no answer", x.documents(), 9);
    }

    private static void house() {
        Searchcluster x = Check.settled();
        x.put(0, false);
        x.put(1, false);
        x.beat(1);
        x.put(2, false);
        x.fall(4);
        x.link(1, 2, false);
        x.link(4, 2, false);
        x.join(1, 3);
        x.door(1);
        CHECK.is("knock", x.knock(), 1);
        CHECK.is("knock", x.knock(), 2);
        int[] due = {3, 1, 2, 6, 1, 2, 4, 2, 3, 3, 1, 2};
        for (int what = 0; what < 12; what++) {
            CHECK.is("house " + what, x.house(what), due[what]);
        }
    }

    private static void soundness() {
        Searchcluster x = new Searchcluster();
        CHECK.is("at first", x.isSound(), true);
        x.settle(30);
        for (int i = 0; i < 40; i++) {
            x.write(1, i % 30, -1, -1, -1);
            x.put(i, false);
            x.sample(i % 3, i % 8);
            if (i % 16 == 15) {
                x.erase();
            }
            x.link(i % 5, (i + 1) % 5, i % 4 != 0);
            x.join(i % 3, i % 5);
            x.fall(i % 7 == 3 ? i % 5 : 0);
            x.rise(i % 3);
            x.beat(1 + i % 3);
            CHECK.is("behind " + i, x.isSound(), true);
        }
    }

    /** What digest() goes through, asked for one by one. */
    private static long sum(Searchcluster x) {
        List<Object> all = new ArrayList<>();
        for (int what = 0; what <= 11; what++) {
            all.add(x.house(what));
        }
        for (int i = 0; i < x.house(0); i++) {
            for (int what = 0; what <= 5; what++) {
                all.add(x.ofRequest(i, what));
            }
        }
        for (int node = 0; node < 5; node++) {
            for (int what = 0; what <= 3; what++) {
                all.add(x.ofNode(node, what));
            }
            for (int shard = 0; shard < 3; shard++) {
                for (int what = 0; what <= 10; what++) {
                    all.add(x.ofCopy(node, shard, what));
                }
                all.add(x.members(node, shard));
            }
        }
        for (int key = 0; key < 48; key++) {
            all.add(x.document(key));
        }
        for (int i = 0; i < 3; i++) {
            all.addAll(List.of(x.error(i), x.leaves(i), x.count(i), x.search(i, 0, 10), x.facets(i)));
        }
        all.add(x.isSound() ? 1 : 0);
        long sum = 7608;
        for (Object value : all) {
            if (value instanceof String text) {
                for (int i = 0; i < text.length(); i++) {
                    sum = sum * 31 + text.charAt(i);
                }
            } else {
                sum = sum * 31 + (Integer) value;
            }
        }
        return sum;
    }

    private static Searchcluster some(boolean isAnswered) {
        Searchcluster x = Check.settled();
        Check.draft(x, "ba di", "ko la ba", 44, 2);
        for (int key = 0; key < 20; key++) {
            x.put(key, false);
        }
        x.sample(0, 0);
        x.sample(1, 7);
        x.sample(2, 3);
        x.beat(2);
        x.append(3, 0);
        x.knock();
        if (!isAnswered) {
            x.fall(3);
        }
        x.documents();
        return x;
    }

    private static void digest() {
        CHECK.is("of a new one", new Searchcluster().digest(), sum(new Searchcluster()));
        CHECK.is("of one that is answered", some(true).digest(), sum(some(true)));
        CHECK.is("of one that is not", some(false).digest(), sum(some(false)));
        Searchcluster x = some(false);
        long due = sum(some(false));
        CHECK.is("of one that is not, again", x.digest(), due);
        x.knock();
        CHECK.is("another one", x.digest() != due, true);
    }
}
