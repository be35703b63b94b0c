/** Promises 12 to 15, 20, 21, 50 and 51: doors, nodes that fall and come back, links, what is told of nodes. */
public final class NodeTest {
    private static final Check CHECK = new Check("NodeTest");

    public static void main(String[] args) {
        door();
        fallAndRise();
        link();
        ofNode();
        packAndSave();
        CHECK.end();
    }

    private static void door() {
        Searchcluster x = Check.settled();
        CHECK.is("door before", x.door(4), 0);
        CHECK.is("door before", x.door(4), 4);
        CHECK.is("door", x.house(10), 4);
        CHECK.noIndex(x, "door 5", () -> x.door(5));
        CHECK.noIndex(x, "door -1", () -> x.door(-1));
        x.link(4, 0, false);
        CHECK.is("no guide behind a link that is cut", x.guide(0), -1);
        CHECK.is("the guide of another shard", x.guide(1), 3);
        x.fall(4);
        CHECK.is("a door that is down", x.guide(1), -1);
        CHECK.is("of one's own is no guide either", x.house(11), 0);
    }

    private static void fallAndRise() {
        Searchcluster x = Check.settled();
        CHECK.is("rise of one that is up", x.rise(0), 0);
        CHECK.is("leads", x.ofCopy(0, 0, 0), 1);
        x.put(0, false);
        CHECK.is("fall", x.fall(0), 1);
        CHECK.is("fall again", x.fall(0), 0);
        CHECK.is("up", x.ofNode(0, 0), 0);
        CHECK.is("nodes that are up", x.house(6), 4);
        CHECK.is("follows", x.ofCopy(0, 0, 0), 0);
        CHECK.is("keeps its term", x.ofCopy(0, 0, 1), 1);
        CHECK.is("keeps its vote", x.ofCopy(0, 0, 2), 0);
        CHECK.is("keeps its log", x.ofCopy(0, 0, 3), 2);
        CHECK.is("keeps what it knows", x.ofCopy(0, 0, 4), 1);
        CHECK.is("keeps its links", x.ofNode(0, 2), 4);
        CHECK.is("rise", x.rise(0), 1);
        CHECK.is("up", x.ofNode(0, 0), 1);
        CHECK.is("it follows still", x.ofCopy(0, 0, 0), 0);
        x.beat(2);
        CHECK.is("patience", x.ofCopy(0, 0, 5), 2);
        CHECK.is("patience of a follower", x.ofCopy(1, 0, 5), 2);
        x.fall(0);
        CHECK.is("patience is lost", x.ofCopy(0, 0, 5), 0);
        CHECK.noIndex(x, "fall 5", () -> x.fall(5));
        CHECK.noIndex(x, "fall -1", () -> x.fall(-1));
        CHECK.noIndex(x, "rise 5", () -> x.rise(5));
        CHECK.noIndex(x, "rise -1", () -> x.rise(-1));
    }

    private static void link() {
        Searchcluster x = new Searchcluster();
        CHECK.is("whole already", x.link(1, 3, true), 0);
        CHECK.is("cut", x.link(1, 3, false), 1);
        CHECK.is("cut already", x.link(3, 1, false), 0);
        CHECK.is("reaches", x.reaches(1, 3), false);
        CHECK.is("reaches", x.reaches(3, 1), false);
        CHECK.is("another way is not gone", x.reaches(1, 2) && x.reaches(2, 3), true);
        CHECK.is("itself", x.reaches(1, 1), true);
        CHECK.is("cuts", x.house(7), 1);
        CHECK.is("links of 1", x.ofNode(1, 2), 3);
        CHECK.is("links of 3", x.ofNode(3, 2), 3);
        CHECK.is("links of 2", x.ofNode(2, 2), 4);
        CHECK.is("whole", x.link(3, 1, true), 1);
        CHECK.is("reaches", x.reaches(1, 3), true);
        x.fall(1);
        CHECK.is("one that is down", x.reaches(1, 3), false);
        CHECK.is("one that is down", x.reaches(3, 1), false);
        CHECK.is("one that is down, itself", x.reaches(1, 1), false);
        CHECK.noIndex(x, "link 5", () -> x.link(5, 5, true));
        CHECK.noIndex(x, "link -1", () -> x.link(0, -1, true));
        CHECK.noArgument(x, "link to itself", () -> x.link(2, 2, false));
        CHECK.noIndex(x, "reaches 5", () -> x.reaches(5, 0));
        CHECK.noIndex(x, "reaches -1", () -> x.reaches(0, -1));
    }

    private static void ofNode() {
        Searchcluster x = Check.settled();
        for (int key = 0; key < 4; key++) {
            x.put(key, false);
        }
        x.beat(2);
        int[] leads = {1, 0, 1, 1, 0};
        // Keys 0 and 3 are on 0, 1, 2; 1 is on 1, 2, 3; 2 is on 2, 3, 4.
        int[] docs = {2, 3, 4, 2, 1};
        for (int node = 0; node < 5; node++) {
            int n = node;
            CHECK.tells(x, "leads", leads[node], () -> x.ofNode(n, 1));
            CHECK.tells(x, "documents", docs[node], () -> x.ofNode(n, 3));
        }
        x.fall(2);
        CHECK.is("documents of one that is down", x.ofNode(2, 3), 4);
        CHECK.noIndex(x, "node 5", () -> x.ofNode(5, 9));
        CHECK.noIndex(x, "node -1", () -> x.ofNode(-1, 0));
        CHECK.noArgument(x, "what 4", () -> x.ofNode(0, 4));
        CHECK.noArgument(x, "what -1", () -> x.ofNode(0, -1));
    }

    private static void packAndSave() {
        Searchcluster x = Check.settled();
        x.fall(2);
        CHECK.tells(x, "pack", 1, () -> x.pack(1));
        CHECK.tells(x, "pack of one that is down", 0, () -> x.pack(2));
        CHECK.tells(x, "save", 1, () -> x.save(4));
        CHECK.tells(x, "save of one that is down", 0, () -> x.save(2));
        CHECK.noIndex(x, "pack 5", () -> x.pack(5));
        CHECK.noIndex(x, "pack -1", () -> x.pack(-1));
        CHECK.noIndex(x, "save 5", () -> x.save(5));
        CHECK.noIndex(x, "save -1", () -> x.save(-1));
    }
}
