/** Section 3 of the document, sentence by sentence: nodes, links, copies, logs, members, and who can answer. */
public final class Section3CopiesTest {
    private static final Check CHECK = new Check("Section3CopiesTest");

    public static void main(String[] args) {
        upAndDown();
        links();
        reaches();
        copiesAtFirst();
        falls();
        terms();
        firstMembers();
        wholeLog();
        majorities();
        documentsOfCopies();
        behind();
        canAnswerUpAndLeads();
        canAnswerOwnTerm();
        canAnswerMembers();
        canAnswerTerms();
        canAnswerItself();
        answered();
        CHECK.end();
    }

    private static void upAndDown() {
        CHECK.section(3, "NODES: 0 to 4, each UP (at first) or DOWN.");
        for (int i = 0; i < 5; i++) {
            int node = i;
            Twins up = new Twins(CHECK, x -> x.settle(30));
            up.tells("up at first", 1, x -> x.ofNode(node, 0));
            up.tells("rise of one that is up", 0, x -> x.rise(node));
            up.answers("fall", "1 0 4", x -> x.fall(node) + " " + x.ofNode(node, 0) + " " + x.house(6));
            Twins down = new Twins(CHECK, x -> x.fall(node));
            down.tells("fall of one that is down", 0, x -> x.fall(node));
            down.answers("rise", "1 1 5", x -> x.rise(node) + " " + x.ofNode(node, 0) + " " + x.house(6));
        }
        Searchcluster x = new Searchcluster();
        for (int node = 0; node < 5; node++) {
            x.fall(node);
            CHECK.is("nodes that are up", x.house(6), 4 - node);
        }
    }

    private static void links() {
        CHECK.section(3, "Between each two there is a LINK, whole (at first) or CUT.");
        for (int i = 0; i < 5; i++) {
            for (int j = 0; j < 5; j++) {
                int a = i;
                int b = j;
                if (a == b) {
                    continue;
                }
                Twins whole = new Twins(CHECK, x -> { });
                whole.tells("whole already", 0, x -> x.link(a, b, true));
                whole.answers("cut", "1 1 3 3 4", x -> x.link(a, b, false) + " " + x.house(7) + " " + x.ofNode(a, 2) + " "
                        + x.ofNode(b, 2) + " " + x.ofNode(other(a, b), 2));
                Twins cut = new Twins(CHECK, x -> x.link(a, b, false));
                cut.tells("cut already, from the other end", 0, x -> x.link(b, a, false));
                cut.answers("whole again, from the other end", "1 0 4", x -> x.link(b, a, true) + " " + x.house(7) + " "
                        + x.ofNode(a, 2));
            }
        }
        Searchcluster x = new Searchcluster();
        for (int node = 0; node < 5; node++) {
            for (int other = 0; other < node; other++) {
                x.link(node, other, false);
            }
        }
        CHECK.is("all that there are", x.house(7), 10);
    }

    /** A node that is neither of both. */
    private static int other(int a, int b) {
        int node = 0;
        while (node == a || node == b) {
            node++;
        }
        return node;
    }

    private static void reaches() {
        CHECK.section(3, "A NODE REACHES another one if both are UP and their LINK is whole; itself if it is UP.");
        Searchcluster x = new Searchcluster();
        CHECK.is("both up, whole", x.reaches(1, 4) + " " + x.reaches(4, 1), "true true");
        x.link(1, 4, false);
        CHECK.is("both up, cut", x.reaches(1, 4) + " " + x.reaches(4, 1), "false false");
        CHECK.is("itself", x.reaches(1, 1) + " " + x.reaches(4, 4), "true true");
        CHECK.is("not by way of another one", x.reaches(1, 2) && x.reaches(2, 4), true);
        x.link(1, 4, true);
        x.fall(4);
        CHECK.is("one down, whole", x.reaches(1, 4) + " " + x.reaches(4, 1), "false false");
        CHECK.is("itself", x.reaches(1, 1) + " " + x.reaches(4, 4), "true false");
        CHECK.is("its links stay", x.ofNode(4, 2), 4);
        x.link(1, 4, false);
        x.rise(4);
        CHECK.is("cut as it was down", x.reaches(1, 4) + " " + x.reaches(2, 4), "false true");
        x.fall(1);
        x.fall(4);
        x.link(4, 1, true);
        CHECK.is("both down", x.reaches(1, 4), false);
    }

    private static void copiesAtFirst() {
        CHECK.section(3, "TERM (0 at first), VOTE (a NODE; NONE at first), a LOG, KNOWN (how many ACTS of it are, from the "
                + "first one on; 0 at first), a ROLE: FOLLOWS (0, at first) or LEADS (1), PATIENCE (0 at first)");
        Searchcluster x = new Searchcluster();
        for (int node = 0; node < 5; node++) {
            for (int shard = 0; shard < 3; shard++) {
                CHECK.is("copy", Check.state(x, node, shard), "follows, term 0, vote -1, acts 0, known 0, patience 0");
            }
        }
        x.settle(30);
        CHECK.is("one that leads", Check.state(x, 3, 1), "leads, term 1, vote 3, acts 1, known 1, patience 0");
        CHECK.is("one that follows", Check.state(x, 2, 1), "follows, term 1, vote 3, acts 1, known 1, patience 0");
        CHECK.is("one that is no member", Check.state(x, 0, 1), "follows, term 0, vote -1, acts 0, known 0, patience 0");
    }

    private static void falls() {
        CHECK.section(3, "As a NODE falls (is DOWN then) its COPIES FOLLOW, with PATIENCE 0; all else stays.");
        Searchcluster x = Check.settled();
        x.put(0, false);
        x.join(0, 4);
        x.beat(1);
        CHECK.is("ahead", Check.state(x, 0, 0), "leads, term 1, vote 0, acts 3, known 3, patience 0");
        x.fall(0);
        CHECK.is("behind", Check.state(x, 0, 0), "follows, term 1, vote 0, acts 3, known 3, patience 0");
        CHECK.is("log", Check.log(x, 0, 0), "1:n 1:r0 1:j4");
        CHECK.is("members", x.members(0, 0), "0 1 2 4");
        CHECK.is("document", x.copyOf(0, 0), "//0/0");
        CHECK.is("leads nothing", x.ofNode(0, 1), 0);
        x.beat(2);
        CHECK.is("a follower, ahead", x.ofCopy(1, 0, 5) + " " + x.ofCopy(2, 0, 5), "2 2");
        x.fall(1);
        CHECK.is("behind", x.ofCopy(1, 0, 5) + " " + x.ofCopy(2, 0, 5), "0 2");
        // Node 2 leads shard 2 and follows in shard 0.
        x.fall(2);
        CHECK.is("all its copies", Check.state(x, 2, 2), "follows, term 1, vote 2, acts 1, known 1, patience 0");
        CHECK.is("all its copies", Check.state(x, 2, 0), "follows, term 1, vote 0, acts 3, known 1, patience 0");
        x.rise(0);
        CHECK.is("as it is up again", Check.state(x, 0, 0), "follows, term 1, vote 0, acts 3, known 3, patience 0");
        CHECK.is("others lead still", x.ofCopy(3, 1, 0), 1);
    }

    private static void terms() {
        CHECK.section(3, "each with the TERM that the NODE had that added it as it LED");
        Searchcluster x = Check.settled();
        x.put(0, false);
        x.beat(1);
        x.fall(0);
        x.door(1);
        x.settle(30);
        x.append(0, 5);
        x.join(0, 4);
        x.beat(1);
        CHECK.is("of both leaders", Check.log(x, 2, 0), "1:n 1:r0 2:n 2:r1 2:j4");
        CHECK.is("the term of the last one", x.ofCopy(2, 0, 6), 2);
        CHECK.is("of one that is down", x.ofCopy(0, 0, 6), 1);
        CHECK.is("of an empty log", x.ofCopy(3, 0, 6), 0);
        CHECK.section(3, "a REQUEST that is sent again is an ACT of its own, with the TERM of the GUIDE that adds it then");
        x = Check.settled();
        x.put(0, false);
        x.fall(0);
        x.door(1);
        x.settle(30);
        x.again(0);
        CHECK.is("sent again", Check.log(x, 1, 0), "1:n 2:n 2:r0");
        CHECK.is("as it was sent at first", Check.log(x, 0, 0), "1:n 1:r0");
        CHECK.promise(23, "its TERM, \":\", and \"n\" for NOTHING, \"r\" and the number for a REQUEST, \"j\" or \"q\" and the "
                + "NODE for JOIN or QUIT");
        x.beat(1);
        x.quit(0, 0);
        x.beat(1);
        x.join(0, 0);
        CHECK.is("of each sort", Check.log(x, 1, 0), "1:n 2:n 2:r0 2:q0 2:j0");
    }

    private static void firstMembers() {
        CHECK.section(3, "MEMBERS by a COPY: at first the NODES SHARD, SHARD + 1 and SHARD + 2 (modulo 5)");
        Searchcluster x = new Searchcluster();
        for (int node = 0; node < 5; node++) {
            CHECK.is("members", x.members(node, 0) + ", " + x.members(node, 1) + ", " + x.members(node, 2),
                    "0 1 2, 1 2 3, 2 3 4");
            for (int shard = 0; shard < 3; shard++) {
                CHECK.is("how many", x.ofCopy(node, shard, 9), 3);
                CHECK.is("by itself", x.ofCopy(node, shard, 8), node >= shard && node <= shard + 2 ? 1 : 0);
            }
        }
    }

    private static void wholeLog() {
        CHECK.section(3, "then act by act of its whole LOG: JOIN adds a NODE, QUIT takes one away");
        Searchcluster x = Check.settled();
        x.fall(1);
        x.fall(2);
        x.join(0, 4);
        CHECK.is("also what is not known", x.members(0, 0) + " known " + x.ofCopy(0, 0, 4), "0 1 2 4 known 1");
        CHECK.is("by another copy", x.members(1, 0), "0 1 2");
        x.rise(1);
        x.rise(2);
        x.beat(2);
        x.quit(0, 4);
        x.beat(2);
        x.join(0, 4);
        x.beat(2);
        x.quit(0, 1);
        CHECK.is("act by act", x.members(0, 0), "0 2 4");
        CHECK.is("by another copy", x.members(4, 0), "0 1 2 4");
        CHECK.is("log", Check.log(x, 0, 0), "1:n 1:j4 1:q4 1:j4 1:q1");
        CHECK.is("how many", x.ofCopy(0, 0, 9) + " " + x.ofCopy(4, 0, 9), "3 4");
    }

    /** A cluster in which shard 0 is led by 0 and has so many members: 0 and those behind it; all know all. */
    static Searchcluster withMembers(int many) {
        Searchcluster x = Check.settled();
        for (int node = 3; node < many; node++) {
            x.join(0, node);
            x.beat(2);
        }
        if (many < 3) {
            x.quit(0, 2);
            x.beat(2);
        }
        return x;
    }

    private static void majorities() {
        CHECK.section(3, "MAJORITY of MEMBERS: more than half of them.");
        int[] least = {0, 0, 2, 2, 3, 3};
        for (int many = 2; many <= 5; many++) {
            for (int up = 1; up <= many; up++) {
                Searchcluster x = withMembers(many);
                for (int node = many - 1; node >= up; node--) {
                    x.fall(node);
                }
                x.put(0, false);
                boolean isMajority = up >= least[many];
                CHECK.is(up + " of " + many + " have it", x.beat(3), isMajority ? 1 : 0);
                CHECK.is(up + " of " + many + " answer", x.answers(0), isMajority ? 0 : -1);
            }
        }
    }

    private static void documentsOfCopies() {
        CHECK.section(3, "The DOCUMENTS of a COPY: those that its KNOWN ACTS make, from the first one on.");
        Searchcluster x = Check.settled();
        x.put(0, false);
        CHECK.is("not known to the leader", x.copyOf(0, 0), "-");
        x.beat(1);
        CHECK.is("known to the leader", x.copyOf(0, 0) + x.ofCopy(0, 0, 7), "//0/01");
        CHECK.is("in the log of a follower, but not known", x.copyOf(1, 0) + x.ofCopy(1, 0, 7), "-0");
        CHECK.is("its log", Check.log(x, 1, 0), "1:n 1:r0");
        x.fall(1);
        x.drop(0);
        x.beat(2);
        CHECK.is("known to a follower", x.copyOf(2, 0), "-");
        CHECK.is("one that was down", x.copyOf(1, 0), "-");
        x.rise(1);
        x.put(3, false);
        x.put(6, false);
        x.beat(2);
        CHECK.is("from the first one on", x.ofCopy(1, 0, 7) + " of " + x.ofCopy(1, 0, 4), "2 of 5");
        CHECK.is("of all shards", x.ofNode(1, 3), 2);
    }

    /** Asks 1 for the votes that it would have, where 0 is DOWN: its own, and that of 2 unless its LOG is BEHIND. */
    private static int votesOfOne(Searchcluster x) {
        x.fall(0);
        return x.votes(1, 0);
    }

    private static void behind() {
        CHECK.section(3, "A LOG is BEHIND another one, if the TERM of its last ACT is less than that of the other one's (0 "
                + "without ACTS), or if these are alike and it has fewer ACTS.");
        CHECK.is("both without acts", new Searchcluster().votes(1, 0), 3);
        Searchcluster x = new Searchcluster();
        x.beat(3);
        CHECK.is("none, and an act", x.votes(1, 0), 2);
        x.link(0, 1, false);
        x.beat(1);
        CHECK.is("none, and an act", votesOfOne(x), 1);
        CHECK.is("an act, and none", x.votes(2, 0), 2);
        CHECK.is("alike", votesOfOne(Check.settled()), 2);
        x = Check.settled();
        x.put(0, false);
        x.link(0, 1, false);
        x.beat(1);
        CHECK.is("a like term, and one act fewer", votesOfOne(x), 1);
        CHECK.is("a like term, and one act more", x.votes(2, 0), 2);
        // 0 leads with the term 1 and has more acts; 1 and 2 have one of the term 2.
        x = Check.settled();
        Check.link(x, false, 0, 1, 2);
        x.put(0, false);
        x.put(0, false);
        x.put(0, false);
        x.beat(6);
        CHECK.is("more acts", Check.log(x, 0, 0), "1:n 1:r0 1:r1 1:r2");
        CHECK.is("a greater term", Check.log(x, 2, 0), "1:n 2:n");
        x.fall(0);
        x.rise(0);
        x.fall(1);
        x.link(0, 2, true);
        CHECK.is("a less term, and more acts", x.votes(0, 0), 1);
        CHECK.is("a greater term, and fewer acts", x.votes(2, 0), 2);
    }

    private static void canAnswerUpAndLeads() {
        CHECK.section(3, "A NODE CAN ANSWER for a SHARD, if it is UP, LEADS there");
        Searchcluster x = Check.settled();
        CHECK.is("it can", x.ofCopy(0, 0, 10), 1);
        CHECK.is("a follower", x.ofCopy(1, 0, 10), 0);
        CHECK.is("no member", x.ofCopy(4, 0, 10), 0);
        CHECK.is("of another shard", x.ofCopy(0, 1, 10), 0);
        x.fall(0);
        CHECK.is("one that is down", x.ofCopy(0, 0, 10), 0);
        x.rise(0);
        CHECK.is("one that does not lead any more", x.ofCopy(0, 0, 10), 0);
    }

    private static void canAnswerOwnTerm() {
        CHECK.section(3, "an ACT of its TERM is KNOWN to it");
        Searchcluster x = new Searchcluster();
        x.beat(3);
        CHECK.is("leads, and knows none", Check.state(x, 0, 0), "leads, term 1, vote 0, acts 1, known 0, patience 0");
        CHECK.is("it cannot", x.ofCopy(0, 0, 10), 0);
        x.beat(1);
        CHECK.is("it knows one", x.ofCopy(0, 0, 4) + " " + x.ofCopy(0, 0, 10), "1 1");
        x.put(0, false);
        x.beat(2);
        x.fall(0);
        x.beat(4);
        CHECK.is("leads, and knows those of another term", Check.state(x, 1, 0),
                "leads, term 2, vote 1, acts 3, known 2, patience 0");
        CHECK.is("it cannot", x.ofCopy(1, 0, 10), 0);
        x.beat(1);
        CHECK.is("it knows one of its own", x.ofCopy(1, 0, 4) + " " + x.ofCopy(1, 0, 10), "3 1");
    }

    private static void canAnswerMembers() {
        CHECK.section(3, "those MEMBERS (by it) that it REACHES");
        Searchcluster x = Check.settled();
        x.fall(1);
        CHECK.is("two of three", x.ofCopy(0, 0, 10), 1);
        x.link(0, 2, false);
        CHECK.is("one of three, and others that are no members", x.ofCopy(0, 0, 10), 0);
        x.rise(1);
        CHECK.is("two of three again", x.ofCopy(0, 0, 10), 1);
        x.join(0, 3);
        x.fall(3);
        CHECK.is("two of four, by its own log", x.ofCopy(0, 0, 10), 0);
        x.rise(3);
        CHECK.is("three of four", x.ofCopy(0, 0, 10), 1);
        x = Check.settled();
        x.fall(0);
        x.door(1);
        x.settle(30);
        CHECK.is("another leader, with another member", x.ofCopy(1, 0, 10), 1);
        x.fall(2);
        CHECK.is("alone", x.ofCopy(1, 0, 10), 0);
        x.rise(0);
        CHECK.is("with the one that led", x.ofCopy(1, 0, 10), 1);
    }

    private static void canAnswerTerms() {
        CHECK.section(3, "and whose TERM is not greater than its own");
        Searchcluster x = Check.settled();
        x.link(0, 2, false);
        x.beat(5);
        x.link(0, 2, true);
        CHECK.is("a greater term", x.ofCopy(2, 0, 1) + " " + x.ofCopy(0, 0, 1), "2 1");
        CHECK.is("with another member", x.ofCopy(0, 0, 10), 1);
        x.fall(1);
        CHECK.is("without", x.ofCopy(0, 0, 10), 0);
        // A new leader, one that has its term, and one that was down and has a less one.
        x = Check.settled();
        x.fall(2);
        x.fall(0);
        x.rise(0);
        x.beat(4);
        CHECK.is("a like term", x.ofCopy(0, 0, 1) + " " + x.ofCopy(1, 0, 1), "2 2");
        CHECK.is("it counts", x.ofCopy(0, 0, 10), 1);
        x.rise(2);
        x.fall(1);
        CHECK.is("a less term", x.ofCopy(0, 0, 1) + " " + x.ofCopy(2, 0, 1), "2 1");
        CHECK.is("it counts", x.ofCopy(0, 0, 10), 1);
    }

    private static void canAnswerItself() {
        CHECK.section(3, "(itself too, if it is one)");
        Searchcluster x = Check.settled();
        x.fall(2);
        CHECK.is("itself and another one of three", x.ofCopy(0, 0, 10), 1);
        x.quit(0, 0);
        CHECK.is("one of two, as it quits", x.members(0, 0) + ": " + x.ofCopy(0, 0, 10), "1 2: 0");
        x.rise(2);
        CHECK.is("both", x.ofCopy(0, 0, 10), 1);
    }

    private static void answered() {
        CHECK.section(3, "A SHARD is ANSWERED by the NODE that the DOOR REACHES and that CAN ANSWER for it (there is one at "
                + "most).");
        Searchcluster x = Check.settled();
        CHECK.is("all", x.answers(0) + " " + x.answers(1) + " " + x.answers(2) + " " + x.house(11), "0 3 2 3");
        x.link(0, 3, false);
        CHECK.is("not reached", x.answers(1) + " " + x.house(11), "-1 2");
        CHECK.is("though it can", x.ofCopy(3, 1, 10), 1);
        x.door(4);
        CHECK.is("by another door", x.answers(1) + " " + x.house(11), "3 3");
        x.fall(4);
        CHECK.is("by one that is down", x.answers(1) + " " + x.house(11), "-1 0");
        // Two that lead: 0 with the term 1 is cut off from its members, 1 with the term 2 answers.
        x = Check.settled();
        Check.link(x, false, 0, 1, 2);
        x.door(3);
        x.beat(6);
        CHECK.is("both lead", x.ofCopy(0, 0, 0) + x.ofCopy(1, 0, 0), 2);
        CHECK.is("one of them", x.answers(0) + " " + x.ofCopy(0, 0, 10), "1 0");
        CHECK.is("a guide that cannot answer", x.door(0) + " " + x.guide(0) + " " + x.answers(0), "3 0 -1");
    }
}
