/** Section 4 of the document, sentence by sentence: how leaders call, what they commit, and who is steady. */
public final class Section4CallsTest {
    private static final Check CHECK = new Check("Section4CallsTest");

    public static void main(String[] args) {
        callsAheadOfElections();
        leadsAsItsTurnComes();
        whomItCalls();
        greaterTerm();
        turnIsOver();
        taken();
        differentActs();
        fourAtMost();
        knownOfTheCalled();
        knownNeverFalls();
        ownTermAlone();
        atMostItsLog();
        majorityThatHasIt();
        majorityOfAnotherLeader();
        notedEarlier();
        itselfIfItIsOne();
        acknowledgedOnce();
        firstPlace();
        quitOfItself();
        CHECK.end();
    }

    private static void state(Searchcluster x, String what, int node, int shard, String due) {
        CHECK.is(what, Check.state(x, node, shard), due);
    }

    private static void callsAheadOfElections() {
        CHECK.section(4, "A BEAT: SHARD by SHARD first the calls, then the elections");
        Searchcluster x = new Searchcluster();
        x.beat(3);
        state(x, "who wins in a beat", 0, 0, "leads, term 1, vote 0, acts 1, known 0, patience 0");
        state(x, "calls in the next one", 1, 0, "follows, term 1, vote 0, acts 0, known 0, patience 0");
        // Node 2 would ask in the next beat, as its patience is 4.
        x = Check.settled();
        x.link(0, 2, false);
        x.beat(4);
        CHECK.is("patience", x.ofCopy(2, 0, 5), 4);
        x.link(0, 2, true);
        x.beat(1);
        state(x, "who is called does not ask", 2, 0, "follows, term 1, vote 0, acts 1, known 1, patience 0");
        CHECK.is("three asked, at first", x.house(8), 3);
    }

    private static void leadsAsItsTurnComes() {
        CHECK.section(4, "Calls: NODE by NODE (rising) that is UP and LEADS as its turn comes.");
        // In shard 1 node 3 leads with the term 1, and 1 with 2: 1 has its turn first.
        Searchcluster x = Check.settled();
        Check.link(x, false, 3, 1, 2);
        x.door(3);
        x.put(1, false);
        x.door(1);
        x.beat(9);
        CHECK.is("both lead", x.ofCopy(1, 1, 0) + x.ofCopy(3, 1, 0), 2);
        Check.link(x, true, 3, 1, 2);
        x.beat(1);
        state(x, "who is called follows", 3, 1, "follows, term 2, vote -1, acts 2, known 2, patience 0");
        state(x, "and does not call any more", 1, 1, "leads, term 2, vote 1, acts 2, known 2, patience 0");
        // In shard 0 node 0 leads with the term 1, and 1 with 2: 0 has its turn first, and its turn is over at once.
        x = Check.settled();
        Check.link(x, false, 0, 1, 2);
        x.put(0, false);
        x.beat(6);
        CHECK.is("both lead", x.ofCopy(0, 0, 0) + x.ofCopy(1, 0, 0), 2);
        Check.link(x, true, 0, 1, 2);
        x.beat(1);
        state(x, "it follows, and is called in the same beat", 0, 0, "follows, term 2, vote -1, acts 2, known 2, patience 0");
        CHECK.is("its own act is gone", Check.log(x, 0, 0), "1:n 2:n");
        state(x, "it called nobody else", 2, 0, "follows, term 2, vote 1, acts 2, known 2, patience 0");
        x.fall(1);
        x.put(0, false);
        CHECK.is("one that is down does not call", Check.log(x, 2, 0), "1:n 2:n");
    }

    private static void whomItCalls() {
        CHECK.section(4, "It CALLS each other MEMBER (by it, as its turn comes; rising) whom it REACHES");
        Searchcluster x = Check.settled();
        x.put(0, false);
        x.link(0, 1, false);
        x.beat(1);
        CHECK.is("one that it does not reach", Check.log(x, 1, 0), "1:n");
        CHECK.is("one that it reaches", Check.log(x, 2, 0), "1:n 1:r0");
        state(x, "no member", 3, 0, "follows, term 0, vote -1, acts 0, known 0, patience 0");
        x.link(0, 1, true);
        x.fall(2);
        x.join(0, 4);
        x.beat(1);
        CHECK.is("one that is down", Check.log(x, 2, 0), "1:n 1:r0");
        CHECK.is("a member by it, though by nobody else", Check.log(x, 4, 0), "1:n 1:r0 1:j4");
        x.rise(2);
        x.beat(2);
        x.quit(0, 1);
        x.put(0, false);
        x.beat(2);
        CHECK.is("none any more by it, though by itself", Check.log(x, 1, 0) + ", " + x.members(1, 0),
                "1:n 1:r0 1:j4, 0 1 2 4");
        CHECK.is("one that is called", Check.log(x, 4, 0), "1:n 1:r0 1:j4 1:q1 1:r1");
    }

    /** In shard 0 that node was cut off from the leader 0 and asked in vain: its TERM is 2, the others' is 1. */
    private static Searchcluster withGreaterTerm(int node) {
        Searchcluster x = Check.settled();
        x.link(0, node, false);
        x.beat(3 + node);
        CHECK.is("term of " + node, x.ofCopy(node, 0, 1), 2);
        x.link(0, node, true);
        return x;
    }

    private static void greaterTerm() {
        CHECK.section(4, "if the TERM of the one that is called is greater: the caller has that TERM from now on, the VOTE "
                + "NONE, it FOLLOWS, and its turn is over.");
        Searchcluster x = withGreaterTerm(2);
        x.put(0, false);
        CHECK.is("acknowledged", x.beat(1), 0);
        state(x, "the caller", 0, 0, "follows, term 2, vote -1, acts 2, known 1, patience 1");
        state(x, "the called one", 2, 0, "follows, term 2, vote 2, acts 1, known 1, patience 1");
        // 1 was called ahead of 2, and is taken as called: nothing more in this beat.
        state(x, "one that was called ahead", 1, 0, "follows, term 1, vote 0, acts 2, known 1, patience 0");
        // What the caller has is noted by a majority, but it does not commit.
        CHECK.is("log of that one", Check.log(x, 1, 0), "1:n 1:r0");
        CHECK.is("waiting", x.ofRequest(0, 0), 1);
    }

    private static void turnIsOver() {
        CHECK.section(4, "and its turn is over");
        Searchcluster x = withGreaterTerm(1);
        x.put(0, false);
        x.beat(1);
        state(x, "the caller", 0, 0, "follows, term 2, vote -1, acts 2, known 1, patience 1");
        state(x, "one that is not called any more", 2, 0, "follows, term 1, vote 0, acts 1, known 1, patience 1");
        x = Check.settled();
        x.put(0, false);
        x.beat(1);
        state(x, "a like term is not greater", 0, 0, "leads, term 1, vote 0, acts 2, known 2, patience 0");
    }

    private static void taken() {
        CHECK.section(4, "otherwise the call is TAKEN: if its TERM is less, it becomes that of the caller, and its VOTE NONE; "
                + "it FOLLOWS, with PATIENCE 0.");
        Searchcluster x = new Searchcluster();
        x.beat(3);
        x.link(0, 2, false);
        x.beat(2);
        state(x, "a like term: the vote stays", 1, 0, "follows, term 1, vote 0, acts 1, known 1, patience 0");
        state(x, "one that is not called", 2, 0, "follows, term 1, vote 0, acts 0, known 0, patience 2");
        x.link(0, 2, true);
        x.beat(1);
        state(x, "its patience goes", 2, 0, "follows, term 1, vote 0, acts 1, known 1, patience 0");
        x.fall(1);
        x.fall(0);
        x.rise(0);
        x.beat(4);
        state(x, "another term", 0, 0, "leads, term 2, vote 0, acts 2, known 2, patience 0");
        x.rise(1);
        x.beat(1);
        state(x, "a less term: the vote goes", 1, 0, "follows, term 2, vote -1, acts 2, known 2, patience 0");
        // One that leads with a less term, and whose own turn comes later.
        x = Check.settled();
        Check.link(x, false, 3, 1, 2);
        x.beat(8);
        CHECK.is("both lead", x.ofCopy(1, 1, 0) + x.ofCopy(3, 1, 0), 2);
        x.link(3, 1, true);
        x.beat(1);
        state(x, "one that led follows", 3, 1, "follows, term 2, vote -1, acts 2, known 2, patience 0");
    }

    private static void differentActs() {
        CHECK.section(4, "Let p be how many ACTS from the beginning on have the same TERMS, place by place, in both LOGS. If "
                + "both have more than p, those of the one that is called go from the place p on.");
        Searchcluster x = Check.settled();
        x.put(0, false);
        x.beat(2);
        Check.link(x, false, 0, 1, 2, 3);
        x.put(0, false);
        x.put(3, false);
        x.join(0, 3);
        x.door(1);
        x.beat(5);
        x.put(6, false);
        CHECK.is("the caller", Check.log(x, 1, 0), "1:n 1:r0 2:n 2:r3");
        CHECK.is("the called one", Check.log(x, 0, 0), "1:n 1:r0 1:r1 1:r2 1:j3");
        CHECK.is("in how many logs", x.ofRequest(1, 5) + " " + x.ofRequest(3, 5), "1 1");
        x.link(0, 1, true);
        x.beat(1);
        CHECK.is("those that are not alike go", Check.log(x, 0, 0), "1:n 1:r0 2:n 2:r3");
        CHECK.is("in how many logs", x.ofRequest(1, 5) + " " + x.ofRequest(3, 5), "0 3");
        CHECK.is("members, as a join went", x.members(0, 0), "0 1 2");
        CHECK.is("document", x.copyOf(0, 0), "//0/0");
        // Not even the first acts are alike: p is 0.
        Searchcluster y = new Searchcluster();
        y.beat(3);
        y.put(0, false);
        y.fall(0);
        y.beat(4);
        y.door(1);
        y.put(0, false);
        CHECK.is("other acts from the first one on", Check.log(y, 0, 0) + ", " + Check.log(y, 1, 0), "1:n 1:r0, 2:n 2:r1");
        CHECK.is("that is sound", y.isSound(), true);
        y.rise(0);
        y.beat(1);
        CHECK.is("all go", Check.log(y, 0, 0) + " " + y.sunk(), "2:n 2:r1 1");
        // One that has fewer and no other acts keeps them all.
        x.fall(0);
        x.put(9, false);
        x.rise(0);
        x.beat(1);
        CHECK.is("those that are alike stay", Check.log(x, 0, 0), "1:n 1:r0 2:n 2:r3 2:r4");
    }

    private static void fourAtMost() {
        CHECK.section(4, "at most 4 of the caller's ACTS from the place p on are added");
        for (int more = 1; more <= 9; more++) {
            Searchcluster x = Check.settled();
            for (int i = 0; i < more; i++) {
                x.put(0, false);
            }
            CHECK.is("acknowledged of " + more, x.beat(1), Math.min(4, more));
            CHECK.is("acts of " + more, x.ofCopy(1, 0, 3), 1 + Math.min(4, more));
            CHECK.is("acknowledged of " + more, x.beat(1), Math.min(4, Math.max(0, more - 4)));
            CHECK.is("acts of " + more, x.ofCopy(1, 0, 3), 1 + Math.min(8, more));
            CHECK.is("known of " + more, x.ofCopy(1, 0, 4), 1 + Math.min(4, more));
        }
        // Where acts have to go, four come in the same call.
        Searchcluster x = Check.settled();
        Check.link(x, false, 0, 1, 2);
        x.put(0, false);
        x.door(1);
        x.beat(6);
        for (int i = 0; i < 4; i++) {
            x.put(0, false);
        }
        x.link(0, 1, true);
        x.beat(1);
        CHECK.is("one goes, four come", Check.log(x, 0, 0), "1:n 2:n 2:r1 2:r2 2:r3");
    }

    private static void knownOfTheCalled() {
        CHECK.section(4, "KNOWN of the one that is called becomes the smaller one of the caller's KNOWN and p + e, if that is "
                + "more.");
        Searchcluster x = Check.settled();
        x.put(0, false);
        x.beat(1);
        CHECK.is("what the caller knew as it called", x.ofCopy(0, 0, 4) + " " + x.ofCopy(1, 0, 4), "2 1");
        x.put(0, false);
        x.beat(1);
        CHECK.is("less than it has", x.ofCopy(1, 0, 3) + " " + x.ofCopy(1, 0, 4), "3 2");
        x.beat(1);
        CHECK.is("as much as it has", x.ofCopy(1, 0, 3) + " " + x.ofCopy(1, 0, 4), "3 3");
        x.fall(2);
        for (int i = 0; i < 6; i++) {
            x.put(0, false);
        }
        x.beat(3);
        CHECK.is("the caller knows", x.ofCopy(0, 0, 4), 9);
        x.rise(2);
        x.beat(1);
        CHECK.is("not more than it has", x.ofCopy(2, 0, 3) + " " + x.ofCopy(2, 0, 4), "7 7");
        x.beat(1);
        CHECK.is("all", x.ofCopy(2, 0, 3) + " " + x.ofCopy(2, 0, 4), "9 9");
    }

    private static void knownNeverFalls() {
        CHECK.section(4, "if that is more");
        Searchcluster x = Check.settled();
        x.put(0, false);
        x.beat(1);
        x.link(0, 2, false);
        x.beat(1);
        CHECK.is("1 knows more than 2", x.ofCopy(1, 0, 4) + " " + x.ofCopy(2, 0, 4), "2 1");
        // 2 has patience, and asks as soon as 0 and 1 are quiet: 1 votes for it.
        x.fall(0);
        x.fall(1);
        x.beat(3);
        x.rise(1);
        x.beat(1);
        state(x, "2 leads", 2, 0, "leads, term 2, vote 2, acts 3, known 1, patience 0");
        x.beat(1);
        state(x, "1 knows what it knew", 1, 0, "follows, term 2, vote 2, acts 3, known 2, patience 0");
        CHECK.is("its document", x.copyOf(1, 0), "//0/0");
    }

    private static void ownTermAlone() {
        CHECK.section(4, "for which the ACT in the place i - 1 has its TERM");
        Searchcluster x = Check.settled();
        x.fall(2);
        for (int i = 0; i < 5; i++) {
            x.put(0, false);
        }
        x.beat(2);
        CHECK.is("0 knows all", x.ofCopy(0, 0, 4) + " " + x.house(2), "6 5");
        x.fall(0);
        x.rise(2);
        x.beat(4);
        state(x, "1 leads", 1, 0, "leads, term 2, vote 1, acts 7, known 5, patience 0");
        x.beat(1);
        CHECK.section(3, "(in calls an ACT is added as it is, with its TERM");
        CHECK.is("2 has five acts of the term 1", Check.log(x, 2, 0), "1:n 1:r0 1:r1 1:r2 1:r3");
        x.door(1);
        x.put(0, false);
        x.link(1, 2, false);
        x.beat(1);
        CHECK.is("those of another term are not counted alone", x.ofCopy(1, 0, 4), 5);
        x.link(1, 2, true);
        CHECK.is("with one of its own", x.beat(1) + " " + x.ofCopy(1, 0, 4), "1 8");
        // Six are in both logs, and none of the leader's own term is.
        x = Check.settled();
        x.fall(2);
        for (int i = 0; i < 4; i++) {
            x.put(0, false);
        }
        x.beat(1);
        x.fall(0);
        x.rise(2);
        x.beat(4);
        state(x, "1 leads", 1, 0, "leads, term 2, vote 1, acts 6, known 1, patience 0");
        x.beat(1);
        CHECK.is("2 has all acts but the last", x.ofCopy(2, 0, 3), 5);
        state(x, "a majority has those of another term", 1, 0, "leads, term 2, vote 1, acts 6, known 1, patience 0");
        CHECK.is("none is acknowledged anew", x.beat(1) + " " + x.ofCopy(1, 0, 4), "0 6");
    }

    private static void atMostItsLog() {
        CHECK.section(4, "of the numbers i above its KNOWN, at most as many as its LOG has");
        Searchcluster x = Check.settled();
        CHECK.is("nothing to commit", x.beat(3) + " " + x.ofCopy(0, 0, 4), "0 1");
        x.put(0, false);
        x.put(0, false);
        x.put(0, false);
        CHECK.section(4, "the greatest becomes its KNOWN (without one nothing changes)");
        CHECK.is("three at once", x.beat(1) + " " + x.ofCopy(0, 0, 4), "3 4");
        x.fall(1);
        x.fall(2);
        x.put(0, false);
        CHECK.is("without one", x.beat(2) + " " + x.ofCopy(0, 0, 4), "0 4");
        // Of different members that have different numbers of acts, the greatest that a majority has.
        x = Section3CopiesTest.withMembers(4);
        x.link(0, 3, false);
        for (int i = 0; i < 6; i++) {
            x.put(0, false);
        }
        x.fall(2);
        x.beat(1);
        CHECK.is("two of four", x.ofCopy(0, 0, 4), 2);
        x.rise(2);
        x.beat(1);
        CHECK.is("three of four have six, two have eight", x.ofCopy(1, 0, 3) + " " + x.ofCopy(2, 0, 3) + " "
                + x.ofCopy(0, 0, 4), "8 6 6");
    }

    private static void majorityThatHasIt() {
        CHECK.section(4, "and a MAJORITY of its MEMBERS has i");
        int[] others = {0, 0, 1, 1, 2, 2};
        for (int many = 2; many <= 5; many++) {
            for (int up = 0; up < many; up++) {
                Searchcluster x = Section3CopiesTest.withMembers(many);
                int known = x.ofCopy(0, 0, 4);
                for (int node = 1; node < many; node++) {
                    x.link(0, node, node <= up);
                }
                x.put(0, false);
                CHECK.is("itself and " + up + " of " + many, x.beat(1), up >= others[many] ? 1 : 0);
                CHECK.is("known", x.ofCopy(0, 0, 4) - known, up >= others[many] ? 1 : 0);
            }
        }
    }

    private static void majorityOfAnotherLeader() {
        CHECK.section(4, "and a MAJORITY of its MEMBERS has i");
        Searchcluster x = Check.settled();
        x.fall(0);
        x.door(1);
        x.settle(30);
        x.rise(0);
        x.beat(1);
        x.fall(2);
        x.put(0, false);
        CHECK.is("1 leads, and 0 has it", x.guide(0) + " " + x.beat(1), "1 1");
        x.fall(0);
        x.put(0, false);
        CHECK.is("1 leads, and has it alone", x.guide(0) + " " + x.beat(2), "1 0");
    }

    private static void notedEarlier() {
        CHECK.section(4, "those of whom it NOTED i or more since it LEADS (in this or an earlier BEAT");
        Searchcluster x = Section3CopiesTest.withMembers(4);
        x.fall(2);
        x.fall(3);
        x.put(0, false);
        CHECK.is("two of four", x.beat(1), 0);
        x.fall(1);
        x.rise(3);
        CHECK.is("another one, and one that is down by now", x.beat(1), 1);
        CHECK.is("one that has it is down", x.ofNode(1, 0) + " " + x.ofCopy(1, 0, 3), "0 3");
        notedOfAnotherTerm(Section3CopiesTest.withMembers(5), 0, 1, 1);
        Searchcluster y = Section3CopiesTest.withMembers(5);
        y.fall(0);
        y.door(1);
        y.settle(30);
        y.rise(0);
        y.beat(2);
        notedOfAnotherTerm(y, 1, 0, 2);
    }

    /**
     * The other one had four acts more as the leader led with that TERM, which went from the log of the leader since: as it
     * leads again, they count no more.
     */
    private static void notedOfAnotherTerm(Searchcluster x, int leader, int other, int term) {
        CHECK.section(4, "NOTES are 0 of all");
        String log = Check.log(x, leader, 0);
        int acts = x.ofCopy(leader, 0, 3);
        CHECK.is("leads", x.guide(0) + " " + x.ofCopy(leader, 0, 1), leader + " " + term);
        Check.link(x, false, leader, 2, 3, 4);
        Check.link(x, false, other, 2, 3, 4);
        for (int i = 0; i < 4; i++) {
            x.put(0, false);
        }
        x.beat(6);
        CHECK.is("four more", x.ofCopy(other, 0, 3) + " " + x.ofCopy(leader, 0, 4), (acts + 4) + " " + acts);
        CHECK.is("2 leads", Check.log(x, 2, 0), log + " " + (term + 1) + ":n");
        x.fall(other);
        Check.link(x, true, leader, 2, 3, 4);
        x.beat(1);
        CHECK.is("one more", Check.log(x, leader, 0), log + " " + (term + 1) + ":n");
        x.fall(2);
        x.beat(3 + leader);
        state(x, "it leads again", leader, 0, "leads, term " + (term + 2) + ", vote " + leader + ", acts " + (acts + 2)
                + ", known " + (acts + 1) + ", patience 0");
        x.link(leader, 4, false);
        x.beat(1);
        CHECK.is("two of five, and one of whom it noted more", x.ofCopy(leader, 0, 4), acts + 1);
        x.link(leader, 4, true);
        x.beat(1);
        CHECK.is("three of five", x.ofCopy(leader, 0, 4), acts + 2);
    }

    private static void itselfIfItIsOne() {
        CHECK.section(4, "itself if it is one");
        Searchcluster x = Check.settled();
        x.fall(2);
        x.put(0, false);
        CHECK.is("itself and one of three", x.beat(1), 1);
        x.quit(0, 0);
        x.beat(2);
        CHECK.is("one of two, as it quits", x.ofCopy(0, 0, 4) + " " + x.ofCopy(0, 0, 0), "2 1");
        x.rise(2);
        x.beat(1);
        CHECK.is("both", x.ofCopy(0, 0, 4), 3);
    }

    private static void acknowledgedOnce() {
        CHECK.section(4, "Each REQUEST among the ACTS that are KNOWN to it by that is ACKNOWLEDGED, if it was not yet");
        Searchcluster x = Check.settled();
        x.put(0, false);
        x.again(0);
        x.put(1, false);
        x.put(2, false);
        CHECK.is("of all shards, each once", x.beat(1), 3);
        CHECK.is("none", x.beat(1), 0);
        // 0 acknowledges; 1 has the act, but does not know it, and comes to know it as it leads.
        x = Check.settled();
        x.put(0, false);
        x.put(0, true);
        CHECK.is("by 0", x.beat(1), 2);
        CHECK.is("outcomes", x.ofRequest(0, 1) + " " + x.ofRequest(1, 1), "1 0");
        x.fall(0);
        CHECK.is("not by 1 once more", x.beat(5), 0);
        CHECK.is("1 knows them", x.ofCopy(1, 0, 4), 4);
        CHECK.is("outcomes", x.ofRequest(0, 1) + " " + x.ofRequest(1, 1), "1 0");
        // 0 never comes to acknowledge what 1 has; 1 does.
        x = Section3CopiesTest.withMembers(4);
        Check.link(x, false, 0, 2, 3);
        x.put(0, false);
        CHECK.is("two of four", x.beat(1), 0);
        x.fall(0);
        x.door(1);
        x.settle(30);
        CHECK.is("by another leader, three of four", x.house(2) + " " + x.ofRequest(0, 1) + " " + x.guide(0), "1 1 1");
    }

    private static void firstPlace() {
        CHECK.section(4, "its OUTCOME is what it did in its first place in this LOG");
        Searchcluster x = Check.settled();
        x.put(0, true);
        x.again(0);
        x.put(0, true);
        x.again(1);
        x.beat(1);
        CHECK.is("did, then was late", x.ofRequest(0, 1), 1);
        CHECK.is("did not, then was late", x.ofRequest(1, 1), 0);
        // In the log that goes, 1 stood ahead of 2; in the one that is known, it stands behind it.
        x = Check.settled();
        x.fall(1);
        x.fall(2);
        x.append(0, 1);
        x.put(0, false);
        x.fall(0);
        x.rise(1);
        x.rise(2);
        x.door(1);
        x.settle(30);
        x.again(1);
        x.again(0);
        x.rise(0);
        CHECK.is("two", x.beat(1), 2);
        CHECK.is("in this log", x.ofRequest(1, 1) + " " + x.ofRequest(0, 1), "1 2");
    }

    private static void quitOfItself() {
        CHECK.section(4, "If a QUIT of itself is among them, it FOLLOWS behind that.");
        Searchcluster x = Check.settled();
        x.quit(0, 0);
        x.put(0, false);
        CHECK.is("leads still", x.guide(0), 0);
        CHECK.is("what is behind it is acknowledged too", x.beat(1), 1);
        state(x, "it follows", 0, 0, "follows, term 1, vote 0, acts 3, known 3, patience 0");
        CHECK.is("no guide", x.guide(0), -1);
        x = Check.settled();
        x.quit(0, 2);
        x.beat(1);
        state(x, "a quit of another one", 0, 0, "leads, term 1, vote 0, acts 2, known 2, patience 0");
        x.join(0, 2);
        x.beat(1);
        x.quit(0, 0);
        x.beat(1);
        CHECK.is("it follows", x.ofCopy(0, 0, 0), 0);
        // A quit of itself that it knew ahead of leading again does not count.
        x.door(1);
        x.settle(30);
        int leader = x.guide(0);
        x.join(0, 0);
        x.beat(2);
        x.fall(leader);
        x.beat(3);
        state(x, "it leads anew", 0, 0, "leads, term 3, vote 0, acts 7, known 6, patience 0");
        x.beat(1);
        CHECK.is("and goes on", x.ofCopy(0, 0, 0) + " " + x.ofCopy(0, 0, 4), "1 7");
    }
}
