/** Promises 12 to 15, 20, 21, 50 and 51: doors, nodes that fall and come back, links, what is told of nodes. */
public final class NodeTest {
    private static final Check CHECK = new Check("NodeTest");

    public static void main(String[] args) {
        door();
        fallAndRise();
        link();
        ofNode();
        packAndSave();
        CHECK.end();
    }

    private static void door() {
        Searchcluster x = Check.settled();
        CHECK.is("door before", x.door(4), 0);
        CHECK.is("door before", x.door(4), 4);
        CHECK.is("door", x.house(10), 4);
        x.link(4, 0, false);
        CHECK.is("no guide behind a link that is cut", x.guide(0), -1);
        CHECK.is("the guide of another shard", x.guide(1), 3);
        x.fall(4);
        CHECK.is("a door that is down", x.guide(1), -1);
        CHECK.is("of one's own is no guide either", x.house(11), 0);
    }

    private static void fallAndRise() {
        Searchcluster x = Check.settled();
        CHECK.is("rise of one that is up", x.rise(0), 0);
        CHECK.is("leads", x.ofCopy(0, 0, 0), 1);
        x.put(0, false);
        CHECK.is("fall", x.fall(0), 1);
        CHECK.is("fall again", x.fall(0), 0);
        CHECK.is("up", x.ofNode(0, 0), 0);
        CHECK.is("nodes that are up", x.house(6), 4);
        CHECK.is("follows", x.ofCopy(0, 0, 0), 0);
        CHECK.is("keeps its term", x.ofCopy(0, 0, 1), 1);
        CHECK.is("keeps its vote", x.ofCopy(0, 0, 2), 0);
        CHECK.is("keeps its log", x.ofCopy(0, 0, 3), 2);
        CHECK.is("keeps what it knows", x.ofCopy(0, 0, 4), 1);
        CHECK.is("keeps its links", x.ofNode(0, 2), 4);
        CHECK.is("rise", x.rise(0), 1);
        CHECK.is("up", x.ofNode(0, 0), 1);
        CHECK.is("it follows still", x.ofCopy(0, 0, 0), 0);
        x.beat(2);
        CHECK.is("patience", x.ofCopy(0, 0, 5), 2);
        CHECK.is("patience of a follower", x.ofCopy(1, 0, 5), 2);
        x.fall(0);
        CHECK.is("patience is lost", x.ofCopy(0, 0, 5), 0);
    }

    private static void link() {
        Searchcluster x = new Searchcluster();
        CHECK.is("whole already", x.link(1, 3, true), 0);
        CHECK.is("cut", x.link(1, 3, false), 1);
        CHECK.is("cut already", x.link(3, 1, false), 0);
        CHECK.is("reaches", x.reaches(1, 3), false);
        CHECK.is("reaches", x.reaches(3, 1), false);
        CHECK.is("another way is not gone", x.reaches(1, 2) && x.reaches(2, 3), true);
        CHECK.is("itself", x.reaches(1, 1), true);
        CHECK.is("cuts", x.house(7), 1);
        CHECK.is("links of 1", x.ofNode(1, 2), 3);
        CHECK.is("links of 3", x.ofNode(3, 2), 3);
        CHECK.is("links of 2", x.ofNode(2, 2), 4);
        CHECK.is("whole", x.link(3, 1, true), 1);
        CHECK.is("reaches", x.reaches(1, 3), true);
        x.fall(1);
        CHECK.is("one that is down", x.reaches(1, 3), false);
        CHECK.is("one that is down", x.reaches(3, 1), false);
        CHECK.is("one that is down, itself", x.reaches(1, 1), false);
    }

    private static void ofNode() {
        Searchcluster x = Check.settled();
        for (int key = 0; key < 4; key++) {
            x.put(key, false);
        }
        x.beat(2);
        int[] leads = {1, 0, 1, 1, 0};
        // Keys 0 and 3 are on 0, 1, 2; 1 is on 1, 2, 3; 2 is on 2, 3, 4.
        int[] docs = {2, 3, 4, 2, 1};
        for (int node = 0; node < 5; node++) {
            CHECK.is("leads", x.ofNode(node, 1), leads[node]);
            CHECK.is("documents", x.ofNode(node, 3), docs[node]);
        }
        x.fall(2);
        CHECK.is("documents of one that is down", x.ofNode(2, 3), 4);
    }

    private static void packAndSave() {
        Searchcluster x = Check.settled();
        x.fall(2);
        CHECK.is("pack", x.pack(1), 1);
        CHECK.is("pack of one that is down", x.pack(2), 0);
        CHECK.is("save", x.save(4), 1);
        CHECK.is("save of one that is down", x.save(2), 0);
    }
}
