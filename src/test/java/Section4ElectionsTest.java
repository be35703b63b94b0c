/** Section 4 of the document, sentence by sentence: who is steady, who asks, who gives votes, who wins. */
public final class Section4ElectionsTest {
    private static final Check CHECK = new Check("Section4ElectionsTest");

    public static void main(String[] args) {
        steadyByACall();
        steadyLeader();
        steadyWithMost();
        steadyWithoutItself();
        whoTakesPart();
        patienceOfEach();
        callOrVote();
        onlyAGreaterTerm();
        leaderThatWasAsked();
        asks();
        whomItAsks();
        greaterTerm();
        lessAndLikeTerms();
        givesItsVote();
        logsThatAreBehind();
        majorities();
        wins();
        oneAtATime();
        CHECK.end();
    }

    private static void state(Searchcluster x, String what, int node, int shard, String due) {
        CHECK.is(what, Check.state(x, node, shard), due);
    }

    private static void steadyByACall() {
        CHECK.section(4, "STEADY in this BEAT is whoever took a call in it (whatever comes later)");
        Searchcluster x = Check.settled();
        x.link(0, 2, false);
        x.beat(9);
        state(x, "2 has asked in vain, and is about to ask", 2, 0, "follows, term 2, vote 2, acts 1, known 1, patience 4");
        CHECK.is("nobody was asked who took a call", x.ofCopy(1, 0, 1), 1);
        x.link(0, 2, true);
        x.beat(1);
        state(x, "1 took a call of 0, which gave way later in its turn", 1, 0,
                "follows, term 1, vote 0, acts 1, known 1, patience 0");
        state(x, "0 took none: it is asked", 0, 0, "follows, term 3, vote 2, acts 1, known 1, patience 0");
        state(x, "2 wins with its vote", 2, 0, "leads, term 3, vote 2, acts 2, known 1, patience 0");
        x.fall(2);
        x.link(0, 1, false);
        x.beat(1);
        CHECK.is("steady in that beat alone", x.ofCopy(1, 0, 5), 1);
    }

    /** In shard 0, led by 0, so many are MEMBERS but 2, which does not know that it quit, and asks in the fifth beat. */
    private static Searchcluster withOneThatQuit(int members) {
        Searchcluster x = Section3CopiesTest.withMembers(members + 1);
        x.link(0, 2, false);
        x.quit(0, 2);
        x.beat(2);
        x.fall(2);
        x.rise(2);
        x.link(0, 2, true);
        CHECK.is("members by 0", x.ofCopy(0, 0, 9), members);
        CHECK.is("a member by itself", x.ofCopy(2, 0, 8), 1);
        return x;
    }

    private static void steadyLeader() {
        CHECK.section(4, "and who LEADS still behind its COMMIT, if those MEMBERS that took its calls in this BEAT, with "
                + "itself if it is one, are a MAJORITY");
        Searchcluster x = withOneThatQuit(2);
        x.beat(5);
        CHECK.is("it asked", x.ofCopy(2, 0, 1), 2);
        CHECK.is("not the leader of both", x.ofCopy(0, 0, 0) + " " + x.ofCopy(0, 0, 1), "1 1");
        CHECK.is("nor the one that it called", x.ofCopy(1, 0, 1), 1);
        x = withOneThatQuit(2);
        x.fall(1);
        x.beat(4);
        CHECK.is("ahead", x.ofCopy(0, 0, 0) + " " + x.ofCopy(0, 0, 1), "1 1");
        x.beat(1);
        state(x, "the leader that called nobody", 0, 0, "follows, term 2, vote -1, acts 2, known 2, patience 0");
        // In shard 1, led by 3, 2 is the other member; 1 does not know that it quit, and asks in the sixth beat.
        x = Check.settled();
        x.link(1, 3, false);
        x.quit(1, 1);
        x.beat(2);
        x.fall(1);
        x.rise(1);
        x.link(1, 3, true);
        x.beat(6);
        CHECK.is("another leader", x.ofCopy(1, 1, 1) + " " + x.ofCopy(3, 1, 0) + " " + x.ofCopy(3, 1, 1), "2 1 1");
    }

    private static void steadyWithMost() {
        CHECK.section(4, "are a MAJORITY");
        for (int others = 0; others <= 3; others++) {
            Searchcluster x = withOneThatQuit(4);
            int[] members = {1, 3, 4};
            for (int i = others; i < 3; i++) {
                x.fall(members[i]);
            }
            x.beat(5);
            CHECK.is("it asked", x.ofCopy(2, 0, 1), 2);
            CHECK.is("itself and " + others + " of four", x.ofCopy(0, 0, 0) + " " + x.ofCopy(0, 0, 1),
                    others >= 2 ? "1 1" : "0 2");
        }
    }

    private static void steadyWithoutItself() {
        CHECK.section(4, "with itself if it is one");
        Searchcluster x = withOneThatQuit(3);
        CHECK.is("members", x.members(0, 0), "0 1 3");
        x.quit(0, 0);
        x.fall(3);
        CHECK.is("members", x.members(0, 0), "1 3");
        x.beat(4);
        CHECK.is("it goes on", x.ofCopy(0, 0, 0) + " " + x.ofCopy(0, 0, 4), "1 3");
        x.beat(1);
        CHECK.is("one of two, itself not counted", x.ofCopy(0, 0, 0) + " " + x.ofCopy(0, 0, 1), "0 2");
    }

    private static void whoTakesPart() {
        CHECK.section(4, "Elections: NODE by NODE (rising) that is UP, does not LEAD, and is a MEMBER by itself as its turn "
                + "comes");
        Searchcluster x = new Searchcluster();
        x.beat(2);
        int[] patience = {2, 2, 2, 0, 0};
        for (int node = 0; node < 5; node++) {
            CHECK.is("patience of " + node, x.ofCopy(node, 0, 5), patience[node]);
        }
        x = Check.settled();
        Check.link(x, false, 0, 1, 2);
        x.fall(1);
        x.beat(3);
        CHECK.is("one that leads", x.ofCopy(0, 0, 5), 0);
        CHECK.is("one that is down", x.ofCopy(1, 0, 5), 0);
        CHECK.is("one that is up", x.ofCopy(2, 0, 5), 3);
        CHECK.is("no member", x.ofCopy(3, 0, 5), 0);
        x = Check.settled();
        x.join(0, 4);
        x.beat(1);
        x.link(0, 4, false);
        x.beat(2);
        CHECK.is("one that joined, by its own log", x.ofCopy(4, 0, 4) + " " + x.ofCopy(4, 0, 5), "1 2");
        x = Check.settled();
        x.quit(0, 0);
        x.beat(5);
        CHECK.is("one that quit, by its own log", x.ofCopy(0, 0, 5), 0);
    }

    /** Each shard with all five as members, led by its first leader; all know all. */
    private static Searchcluster allMembers() {
        Searchcluster x = Check.settled();
        for (int i = 3; i < 5; i++) {
            for (int shard = 0; shard < 3; shard++) {
                x.join(shard, (shard + i) % 5);
            }
            x.beat(2);
        }
        return x;
    }

    private static void patienceOfEach() {
        CHECK.section(4, "Otherwise its PATIENCE is 1 more; if that is at least 3 + ((NODE + 2 * SHARD) modulo 5), it ASKS");
        int[][] due = {{3, 4, 5, 6, 7}, {5, 6, 7, 3, 4}, {7, 3, 4, 5, 6}};
        for (int node = 0; node < 5; node++) {
            for (int shard = 0; shard < 3; shard++) {
                Searchcluster x = allMembers();
                int term = x.ofCopy(node, shard, 1);
                x.fall(node);
                x.rise(node);
                for (int other = 0; other < 5; other++) {
                    if (other != node) {
                        x.link(node, other, false);
                    }
                }
                for (int beat = 1; beat < due[shard][node]; beat++) {
                    x.beat(1);
                    CHECK.is("patience of " + node + " in shard " + shard, x.ofCopy(node, shard, 5) + " "
                            + x.ofCopy(node, shard, 1), beat + " " + term);
                }
                x.beat(1);
                CHECK.is(node + " asks in shard " + shard, x.ofCopy(node, shard, 5) + " " + x.ofCopy(node, shard, 1) + " "
                        + x.ofCopy(node, shard, 2), "0 " + (term + 1) + " " + node);
            }
        }
    }

    private static void callOrVote() {
        CHECK.section(4, "if it took a call, or gave a vote to another one in this BEAT, nothing");
        Searchcluster x = Check.settled();
        x.beat(10);
        CHECK.is("one that is called", x.ofCopy(1, 0, 5), 0);
        x.link(0, 2, false);
        x.beat(1);
        x.fall(0);
        x.beat(3);
        CHECK.is("both are about to ask", x.ofCopy(1, 0, 5) + " " + x.ofCopy(2, 0, 5) + " " + x.house(8), "3 4 3");
        x.beat(1);
        CHECK.is("one of them asked", x.house(8), 4);
        state(x, "1 won", 1, 0, "leads, term 2, vote 1, acts 2, known 1, patience 0");
        state(x, "2 gave its vote: nothing more", 2, 0, "follows, term 2, vote 1, acts 1, known 1, patience 0");
    }

    private static void onlyAGreaterTerm() {
        CHECK.section(4, "(if it only took a greater TERM, it goes on as ever)");
        Searchcluster x = Check.settled();
        x.link(0, 1, false);
        x.put(0, false);
        x.beat(1);
        x.fall(0);
        x.beat(2);
        CHECK.is("patience", x.ofCopy(1, 0, 5) + " " + x.ofCopy(2, 0, 5), "3 2");
        x.beat(1);
        state(x, "1 asks, and is behind", 1, 0, "follows, term 2, vote 1, acts 1, known 1, patience 0");
        state(x, "2 takes its term, and goes on", 2, 0, "follows, term 2, vote -1, acts 2, known 1, patience 3");
        x.beat(2);
        state(x, "2 asks", 2, 0, "leads, term 3, vote 2, acts 3, known 1, patience 0");
        state(x, "1 gives its vote", 1, 0, "follows, term 3, vote 2, acts 1, known 1, patience 0");
    }

    private static void leaderThatWasAsked() {
        CHECK.section(4, "and it FOLLOWS");
        Searchcluster x = Check.settled();
        x.link(1, 3, false);
        x.quit(1, 1);
        x.beat(2);
        x.fall(1);
        x.rise(1);
        x.link(1, 3, true);
        x.fall(2);
        x.beat(5);
        CHECK.is("it leads, and called nobody", x.ofCopy(3, 1, 0) + " " + x.ofCopy(3, 1, 1), "1 1");
        x.beat(1);
        state(x, "1 asked", 1, 1, "follows, term 2, vote 1, acts 1, known 1, patience 0");
        state(x, "3 follows as its turn comes, and goes on", 3, 1, "follows, term 2, vote -1, acts 2, known 2, patience 1");
    }

    private static void asks() {
        CHECK.section(4, "it ASKS: its TERM is 1 more, its VOTE itself, its PATIENCE 0");
        Searchcluster x = Check.settled();
        x.fall(0);
        x.fall(2);
        x.beat(3);
        state(x, "ahead", 1, 0, "follows, term 1, vote 0, acts 1, known 1, patience 3");
        x.beat(1);
        state(x, "asked in vain", 1, 0, "follows, term 2, vote 1, acts 1, known 1, patience 0");
        CHECK.is("asked, won", x.house(8) + " " + x.house(9), "4 3");
        x.beat(4);
        state(x, "asked again", 1, 0, "follows, term 3, vote 1, acts 1, known 1, patience 0");
    }

    private static void whomItAsks() {
        CHECK.section(4, "then each other MEMBER (by it; rising) whom it REACHES, and who is not STEADY");
        Searchcluster x = Check.settled();
        x.fall(0);
        x.rise(0);
        x.link(0, 2, false);
        x.beat(3);
        CHECK.is("terms", x.ofCopy(0, 0, 1) + " " + x.ofCopy(1, 0, 1) + " " + x.ofCopy(2, 0, 1) + " " + x.ofCopy(3, 0, 1)
                + " " + x.ofCopy(4, 0, 1), "2 2 1 0 0");
        x = Check.settled();
        x.fall(0);
        x.rise(0);
        x.fall(1);
        x.beat(3);
        CHECK.is("one that is down", x.ofCopy(1, 0, 1) + " " + x.ofCopy(2, 0, 1), "1 2");
        // By 1 there are three members, as it never had the act by which 3 joined.
        x = Check.settled();
        x.link(0, 1, false);
        x.join(0, 3);
        x.beat(2);
        x.fall(0);
        x.beat(2);
        CHECK.is("no member by it, though by itself", x.ofCopy(1, 0, 1) + " " + x.ofCopy(2, 0, 1) + " "
                + x.ofCopy(3, 0, 1), "2 2 1");
    }

    /** In shard 0 with five members that node asked once while it was cut off; 0, that led, is about to ask. */
    private static Searchcluster withGreaterTerm(int node) {
        Searchcluster x = Section3CopiesTest.withMembers(5);
        x.link(0, node, false);
        x.beat(3 + node);
        x.beat(3 + node);
        x.link(0, node, true);
        x.fall(0);
        x.rise(0);
        CHECK.is("term of " + node, x.ofCopy(node, 0, 1), 3);
        x.fall(node);
        x.beat(2);
        x.rise(node);
        CHECK.is("0 is about to ask", x.ofCopy(0, 0, 1) + " " + x.ofCopy(0, 0, 5), "1 2");
        return x;
    }

    private static void greaterTerm() {
        CHECK.section(4, "if the TERM of the one that is asked is greater: the one that asks has that TERM, the VOTE NONE, "
                + "and asks no more (it does not win).");
        Searchcluster x = withGreaterTerm(3);
        x.beat(1);
        state(x, "it asked", 0, 0, "follows, term 3, vote -1, acts 3, known 3, patience 0");
        CHECK.is("two gave their votes", x.ofCopy(1, 0, 2) + " " + x.ofCopy(2, 0, 2), "0 0");
        CHECK.is("it won not, with three of five", x.house(9), 3);
        state(x, "one that was not asked any more", 4, 0, "follows, term 1, vote -1, acts 3, known 3, patience 3");
        state(x, "the one with the greater term", 3, 0, "follows, term 3, vote 3, acts 3, known 3, patience 1");
        x = withGreaterTerm(4);
        x.beat(1);
        state(x, "it asked", 0, 0, "follows, term 3, vote -1, acts 3, known 3, patience 0");
        CHECK.is("four votes are nothing either", x.house(9), 3);
        x = withGreaterTerm(1);
        x.beat(1);
        state(x, "it asked", 0, 0, "follows, term 3, vote -1, acts 3, known 3, patience 0");
        CHECK.is("nobody else was asked", x.ofCopy(2, 0, 1) + " " + x.ofCopy(3, 0, 1) + " " + x.ofCopy(4, 0, 1), "1 1 1");
    }

    private static void lessAndLikeTerms() {
        CHECK.section(4, "otherwise: if its TERM is less, it becomes that of the one that asks, its VOTE NONE, and it FOLLOWS.");
        Searchcluster x = Check.settled();
        x.link(0, 2, false);
        x.beat(5);
        state(x, "2 asked for itself", 2, 0, "follows, term 2, vote 2, acts 1, known 1, patience 0");
        x.fall(0);
        x.beat(4);
        state(x, "1 asks with a like term", 1, 0, "follows, term 2, vote 1, acts 1, known 1, patience 0");
        CHECK.section(4, "It gives its vote, if its VOTE is NONE");
        state(x, "2 keeps its vote, and goes on", 2, 0, "follows, term 2, vote 2, acts 1, known 1, patience 4");
        x.beat(1);
        state(x, "2 asks with a greater one", 2, 0, "leads, term 3, vote 2, acts 2, known 1, patience 0");
        state(x, "1 gives it its vote", 1, 0, "follows, term 3, vote 2, acts 1, known 1, patience 0");
        // A like term without a vote: 0 gave way to the term of 2.
        x = Check.settled();
        x.link(0, 2, false);
        x.beat(5);
        x.link(0, 2, true);
        x.beat(1);
        state(x, "0 has the term and no vote", 0, 0, "follows, term 2, vote -1, acts 1, known 1, patience 1");
        x.fall(2);
        x.link(0, 1, false);
        x.fall(0);
        x.rise(0);
        x.beat(3);
        x.link(0, 1, true);
        state(x, "0 asked", 0, 0, "follows, term 3, vote 0, acts 1, known 1, patience 0");
        x.beat(1);
        state(x, "1 asks with a less one", 1, 0, "follows, term 3, vote -1, acts 1, known 1, patience 0");
        x.beat(2);
        state(x, "0 asks one that has its term ahead, and none given", 0, 0,
                "leads, term 4, vote 0, acts 2, known 1, patience 0");
    }

    private static void givesItsVote() {
        CHECK.section(4, "its VOTE is that one, its PATIENCE 0");
        Searchcluster x = Check.settled();
        x.fall(0);
        x.fall(1);
        x.beat(3);
        x.rise(1);
        x.beat(1);
        CHECK.is("patience", x.ofCopy(1, 0, 5) + " " + x.ofCopy(2, 0, 5), "1 4");
        x.beat(1);
        state(x, "2 asked", 2, 0, "leads, term 2, vote 2, acts 2, known 1, patience 0");
        state(x, "1 gave its vote behind its turn", 1, 0, "follows, term 2, vote 2, acts 1, known 1, patience 0");
        // A vote of a like term that is NONE: 2 took the term 2 of 1 that was behind it, and 0 asks for the same term.
        x = Section3CopiesTest.withMembers(4);
        x.link(0, 1, false);
        x.put(0, false);
        x.beat(1);
        x.fall(0);
        x.beat(3);
        state(x, "1 asked, and was behind", 1, 0, "follows, term 2, vote 1, acts 2, known 2, patience 0");
        state(x, "2 took its term", 2, 0, "follows, term 2, vote -1, acts 3, known 2, patience 3");
        x.fall(1);
        x.fall(2);
        x.rise(2);
        x.rise(0);
        x.beat(3);
        state(x, "0 asked for the same term", 0, 0, "leads, term 2, vote 0, acts 4, known 3, patience 0");
        state(x, "2 gave its vote, with the term that it had", 2, 0,
                "follows, term 2, vote 0, acts 3, known 2, patience 0");
    }

    private static void logsThatAreBehind() {
        CHECK.section(4, "and the LOG of the one that asks is not BEHIND its own");
        // 1 asks 2, that has as many acts, fewer, or more.
        String[] due = {"follows, term 2, vote -1", "follows, term 2, vote 1", "follows, term 2, vote 1"};
        for (int fewer = -1; fewer <= 1; fewer++) {
            Searchcluster x = Check.settled();
            x.put(0, false);
            x.beat(1);
            if (fewer != 0) {
                x.link(0, fewer < 0 ? 1 : 2, false);
                x.put(0, false);
                x.beat(1);
            }
            x.fall(0);
            x.fall(1);
            x.rise(1);
            x.fall(2);
            x.rise(2);
            x.beat(4);
            CHECK.is("it has " + -fewer + " acts more", Check.state(x, 2, 0).startsWith(due[fewer + 1]), true);
            CHECK.is("votes are enough", x.ofCopy(1, 0, 0), fewer < 0 ? 0 : 1);
        }
        // 0 has more acts, of a less term.
        Searchcluster x = Check.settled();
        Check.link(x, false, 0, 1, 2);
        x.put(0, false);
        x.put(0, false);
        x.put(0, false);
        x.beat(3);
        x.fall(1);
        x.fall(0);
        x.rise(0);
        x.fall(2);
        x.rise(2);
        Check.link(x, true, 0, 1, 2);
        x.beat(3);
        CHECK.is("logs", Check.log(x, 0, 0) + ", " + Check.log(x, 2, 0), "1:n 1:r0 1:r1 1:r2 2:n, 1:n");
        state(x, "more acts of a like term", 0, 0, "leads, term 2, vote 0, acts 5, known 1, patience 0");
    }

    private static void majorities() {
        CHECK.section(4, "If votes (its own too) are a MAJORITY of its MEMBERS, it wins");
        int[] least = {0, 0, 2, 2, 3, 3};
        for (int many = 2; many <= 5; many++) {
            for (int votes = 1; votes <= many; votes++) {
                Searchcluster x = Section3CopiesTest.withMembers(many);
                x.fall(0);
                x.rise(0);
                for (int node = 1; node < many; node++) {
                    x.link(0, node, node < votes);
                }
                x.beat(3);
                CHECK.is(votes + " votes of " + many, x.ofCopy(0, 0, 0) + " " + x.ofCopy(0, 0, 1) + " " + x.house(9),
                        votes >= least[many] ? "1 2 4" : "0 2 3");
            }
        }
    }

    private static void wins() {
        CHECK.section(4, "it LEADS, NOTES are 0 of all, and it adds NOTHING to its LOG");
        Searchcluster x = Check.settled();
        CHECK.is("to an empty log", Check.log(x, 0, 0), "1:n");
        x.put(0, false);
        x.beat(2);
        x.fall(0);
        x.beat(4);
        CHECK.is("to one of another term", Check.log(x, 1, 0), "1:n 1:r0 2:n");
        state(x, "it leads", 1, 0, "leads, term 2, vote 1, acts 3, known 2, patience 0");
        CHECK.is("nobody else has it yet", Check.log(x, 2, 0), "1:n 1:r0");
        CHECK.is("nobody else leads", x.ofCopy(0, 0, 0) + x.ofCopy(2, 0, 0), 0);
        x = new Searchcluster();
        x.beat(3);
        x.fall(1);
        x.fall(2);
        x.beat(2);
        CHECK.is("it notes nothing of those that it did not call yet", x.ofCopy(0, 0, 0) + " " + x.ofCopy(0, 0, 4), "1 0");
    }

    private static void oneAtATime() {
        CHECK.section(4, "SHARD by SHARD");
        Searchcluster x = Check.settled();
        x.fall(2);
        x.beat(5);
        // Shard 2 is led anew by 4, as 3 has the patience 5 and 4 has 6; the others go on.
        CHECK.is("guides", x.guide(0) + " " + x.guide(1) + " " + x.guide(2), "0 3 3");
        CHECK.is("terms", x.ofCopy(0, 0, 1) + " " + x.ofCopy(3, 1, 1) + " " + x.ofCopy(3, 2, 1), "1 1 2");
        CHECK.is("a node leads two", x.ofNode(3, 1), 2);
    }
}
