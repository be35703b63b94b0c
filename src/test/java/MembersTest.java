/** Promises 16, 17 and 24: joining and quitting. */
public final class MembersTest {
    private static final Check CHECK = new Check("MembersTest");

    public static void main(String[] args) {
        refusals();
        joining();
        quittingLeader();
        cutBack();
        CHECK.end();
    }

    private static void refusals() {
        Searchcluster x = new Searchcluster();
        CHECK.is("join without a guide", x.join(0, 3), -9);
        CHECK.is("quit without a guide", x.quit(0, 1), -9);
        x.beat(3);
        CHECK.is("a guide that knows nothing of its term", x.guide(0), 0);
        CHECK.is("join", x.join(0, 3), -9);
        CHECK.is("quit", x.quit(0, 1), -9);
        x.beat(1);
        CHECK.is("join of a member", x.join(0, 2), -9);
        CHECK.is("quit of no member", x.quit(0, 3), -9);
        CHECK.is("join", x.join(0, 4), 2);
        CHECK.is("a second change", x.join(0, 3), -9);
        CHECK.is("a second change", x.quit(0, 1), -9);
        x.beat(1);
        CHECK.is("join", x.join(0, 3), 3);
        x.beat(1);
        CHECK.is("members", x.members(0, 0), "0 1 2 3 4");
        CHECK.is("how many", x.ofCopy(0, 0, 9), 5);
        for (int node = 4; node > 1; node--) {
            CHECK.is("quit", x.quit(0, node), 8 - node);
            x.beat(1);
        }
        CHECK.is("members", x.members(0, 0), "0 1");
        CHECK.is("with two", x.quit(0, 1), -9);
        CHECK.is("others of whom it was", x.members(0, 1), "1 2 3");
    }

    private static void joining() {
        Searchcluster x = Check.settled();
        x.put(0, false);
        x.beat(1);
        CHECK.is("join", x.join(0, 4), 3);
        CHECK.is("counts at once", x.members(0, 0), "0 1 2 4");
        CHECK.is("not there yet", x.members(1, 0), "0 1 2");
        CHECK.is("no member by itself", x.ofCopy(4, 0, 8), 0);
        CHECK.is("act", x.act(0, 0, 2), "1:j4");
        x.beat(1);
        CHECK.is("there", x.members(1, 0), "0 1 2 4");
        CHECK.is("a member by itself", x.ofCopy(4, 0, 8), 1);
        CHECK.is("log of who joined", x.ofCopy(4, 0, 3), 3);
        CHECK.is("what it knew ahead of the commit", x.copyOf(4, 0), "//0/0");
        CHECK.is("knows", x.ofCopy(4, 0, 4), 2);
        x.beat(1);
        CHECK.is("knows", x.ofCopy(4, 0, 4), 3);
        // Of four, three are a majority.
        x.fall(1);
        x.fall(2);
        x.put(0, false);
        CHECK.is("two of four", x.beat(2), 0);
        CHECK.is("two of four do not answer", x.answers(0), -1);
        x.rise(1);
        CHECK.is("three of four", x.beat(2), 1);
    }

    private static void quittingLeader() {
        Searchcluster x = Check.settled();
        CHECK.is("quit of the leader", x.quit(0, 0), 2);
        CHECK.is("act", x.act(0, 0, 1), "1:q0");
        CHECK.is("it leads still", x.guide(0), 0);
        CHECK.is("no member", x.ofCopy(0, 0, 8), 0);
        CHECK.is("it answers still", x.answers(0), 0);
        x.fall(2);
        x.beat(2);
        CHECK.is("one of two, itself not counted", x.ofCopy(0, 0, 4), 1);
        CHECK.is("it goes on", x.ofCopy(0, 0, 0), 1);
        CHECK.is("one of two does not answer", x.answers(0), -1);
        x.rise(2);
        x.beat(1);
        CHECK.is("known", x.ofCopy(0, 0, 4), 2);
        CHECK.is("it follows", x.ofCopy(0, 0, 0), 0);
        x.beat(10);
        CHECK.is("no patience of who is no member", x.ofCopy(0, 0, 5), 0);
        CHECK.is("another one leads", x.guide(0), 1);
        CHECK.is("and does not call it", x.ofCopy(0, 0, 1), 1);
    }

    /** Acts that go take back what they did to the members. */
    private static void cutBack() {
        Searchcluster x = Check.settled();
        x.link(0, 1, false);
        x.link(0, 2, false);
        x.link(0, 3, false);
        CHECK.is("join", x.join(0, 3), 2);
        x.door(1);
        x.settle(30);
        CHECK.is("alone", x.members(0, 0), "0 1 2 3");
        CHECK.is("quit", x.quit(0, 2), 3);
        x.beat(1);
        x.link(0, 1, true);
        x.beat(1);
        CHECK.is("members that are left", x.members(0, 0), "0 1");
        CHECK.is("act", x.act(0, 0, 1), "2:n");
        CHECK.is("act", x.act(0, 0, 2), "2:q2");
        CHECK.is("who quit knows of it, as it was called then", x.members(2, 0), "0 1 2");
    }
}
