/** Promises 29 to 32: documents, of the copies that answer and of the others. */
public final class DocumentTest {
    private static final Check CHECK = new Check("DocumentTest");

    public static void main(String[] args) {
        answered();
        notAnswered();
        common();
        CHECK.end();
    }

    private static void answered() {
        Searchcluster x = Check.settled();
        CHECK.is("none", x.document(0), "-");
        CHECK.is("none", x.documents(), 0);
        Check.draft(x, "to", "", 99, 5);
        x.put(0, false);
        x.put(1, false);
        x.put(2, false);
        x.put(45, false);
        CHECK.is("not known yet", x.documents(), 0);
        x.beat(1);
        CHECK.is("document", x.document(0), "to//99/5");
        CHECK.is("documents", x.documents(), 4);
        CHECK.is("the copy of who leads", x.copyOf(0, 45), "to//99/5");
        CHECK.is("a copy that does not know it", x.copyOf(1, 45), "-");
        CHECK.is("the copy of no member", x.copyOf(4, 45), "-");
        x.fall(1);
        x.beat(1);
        CHECK.is("a copy that was down", x.copyOf(1, 0), "-");
        CHECK.is("a copy that knows it", x.copyOf(2, 0), "to//99/5");
        x.fall(2);
        CHECK.is("a copy that is down", x.copyOf(2, 0), "to//99/5");
        x.rise(1);
        x.rise(2);
        x.drop(0);
        x.beat(1);
        CHECK.is("gone", x.document(0), "-");
        CHECK.is("there still", x.copyOf(1, 0), "to//99/5");
        x.settle(30);
        CHECK.is("documents", x.documents(), 3);
    }

    private static void notAnswered() {
        Searchcluster x = new Searchcluster();
        CHECK.is("document", x.document(0), "!");
        CHECK.is("documents", x.documents(), -9);
        CHECK.is("common", x.common(0, 1), "!");
        x.beat(4);
        CHECK.is("a shard that is answered", x.document(0), "-");
        CHECK.is("a shard that is not", x.document(2), "!");
        CHECK.is("two of three shards", x.documents(), -9);
        CHECK.is("two of three shards", x.common(1, 10), "!");
        x.beat(1);
        CHECK.is("all", x.documents(), 0);
        CHECK.is("none", x.common(0, 10), "");
        x.link(0, 3, false);
        CHECK.is("a leader that the door does not reach", x.documents(), -9);
        // The leader of shard 0 is the door itself, and has no majority.
        x.link(0, 1, false);
        x.link(0, 2, false);
        CHECK.is("without a majority", x.document(0), "!");
    }

    private static void common() {
        Searchcluster x = Check.settled();
        Check.draft(x, "ba ba bi", "to ti ta so", 0, 0);
        x.put(0, false);
        Check.draft(x, "bi", "ta ta to di", 0, 0);
        x.put(1, false);
        x.beat(1);
        CHECK.is("titles", x.common(0, 10), "bi:2 ba:1");
        CHECK.is("bodies", x.common(1, 5), "ta:2 to:2 di:1 so:1 ti:1");
        CHECK.is("three at most", x.common(1, 3), "ta:2 to:2 di:1");
        CHECK.is("one", x.common(0, 1), "bi:2");
        Check.draft(x, "", "ba bi bo da di do fa fi fo ka", 0, 0);
        x.put(2, false);
        x.beat(1);
        CHECK.is("ten", x.common(1, 10), "di:2 ta:2 to:2 ba:1 bi:1 bo:1 da:1 do:1 fa:1 fi:1");
    }
}
