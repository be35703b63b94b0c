/** Promises 18, 19, 22, 23 and 25 to 28: beats, and what is told of copies. */
public final class BeatTest {
    private static final Check CHECK = new Check("BeatTest");

    public static void main(String[] args) {
        firstElections();
        settling();
        calls();
        differentLogs();
        steady();
        greaterTerm();
        votes();
        votersThatAreAhead();
        votersOfOtherTerms();
        nothingNotedAtFirst();
        steadyLeader();
        sunk();
        CHECK.end();
    }

    private static void copy(Searchcluster x, int node, int shard, int... due) {
        for (int what = 0; what < due.length; what++) {
            CHECK.is("copy of " + node + " of " + shard + ", " + what, x.ofCopy(node, shard, what), due[what]);
        }
    }

    private static void firstElections() {
        Searchcluster x = new Searchcluster();
        x.beat(2);
        // role, term, vote, acts, known, patience, last term, documents, member, members, can answer
        copy(x, 0, 0, 0, 0, -1, 0, 0, 2, 0, 0, 1, 3, 0);
        copy(x, 4, 0, 0, 0, -1, 0, 0, 0, 0, 0, 0, 3, 0);
        x.beat(1);
        copy(x, 0, 0, 1, 1, 0, 1, 0, 0, 1, 0, 1, 3, 0);
        copy(x, 1, 0, 0, 1, 0, 0, 0, 0, 0, 0, 1, 3, 0);
        copy(x, 2, 1, 0, 1, 3, 0, 0, 0, 0, 0, 1, 3, 0);
        copy(x, 3, 1, 1, 1, 3, 1, 0, 0, 1, 0, 1, 3, 0);
        copy(x, 2, 2, 0, 0, -1, 0, 0, 3, 0, 0, 1, 3, 0);
        CHECK.is("asked", x.house(8), 2);
        CHECK.is("won", x.house(9), 2);
        CHECK.is("guide", x.guide(1), 3);
        CHECK.is("who leads does not answer yet", x.answers(1), -1);
        CHECK.is("act", x.act(0, 0, 0), "1:n");
        x.beat(1);
        copy(x, 0, 0, 1, 1, 0, 1, 1, 0, 1, 0, 1, 3, 1);
        copy(x, 1, 0, 0, 1, 0, 1, 0, 0, 1, 0, 1, 3, 0);
        copy(x, 2, 2, 1, 1, 2, 1, 0, 0, 1, 0, 1, 3, 0);
        CHECK.is("answers", x.answers(0), 0);
        CHECK.is("shards that are answered", x.house(11), 2);
        x.beat(1);
        copy(x, 1, 0, 0, 1, 0, 1, 1, 0, 1, 0, 1, 3, 0);
        CHECK.is("beats", x.house(3), 5);
        CHECK.is("answers", x.answers(2), 2);
    }

    private static void settling() {
        Searchcluster x = new Searchcluster();
        CHECK.is("one", x.settle(1), 1);
        CHECK.is("three more", x.settle(3), 3);
        CHECK.is("the last", x.settle(30), 1);
        CHECK.is("none", x.settle(30), 0);
        CHECK.is("beats", x.house(3), 5);
        x.fall(0);
        CHECK.is("a door that is down", x.settle(30), 30);
    }

    private static void calls() {
        Searchcluster x = Check.settled();
        x.fall(2);
        for (int i = 0; i < 7; i++) {
            x.put(0, false);
        }
        CHECK.is("four at most", x.beat(1), 4);
        CHECK.is("log", x.ofCopy(1, 0, 3), 5);
        CHECK.is("knows what the caller knew", x.ofCopy(1, 0, 4), 1);
        CHECK.is("the rest", x.beat(1), 3);
        CHECK.is("none", x.beat(1), 0);
        CHECK.is("known", x.ofCopy(1, 0, 4), 8);
        CHECK.is("one that is down has nothing", x.ofCopy(2, 0, 3), 1);
        CHECK.is("nor does it grow impatient", x.ofCopy(2, 0, 5), 0);
        x.rise(2);
        x.beat(1);
        CHECK.is("four at most", x.ofCopy(2, 0, 3), 5);
        CHECK.is("knows what it has", x.ofCopy(2, 0, 4), 5);
        x.beat(1);
        CHECK.is("the rest", x.ofCopy(2, 0, 3), 8);
        CHECK.is("alike", x.act(2, 0, 7), "1:r6");
        x.fall(1);
        x.put(0, false);
        x.fall(2);
        CHECK.is("without a majority", x.beat(10), 0);
        CHECK.is("it leads still", x.guide(0), 0);
        CHECK.is("it does not answer", x.answers(0), -1);
    }

    private static void differentLogs() {
        Searchcluster x = Check.settled();
        x.put(0, false);
        x.beat(2);
        for (int i = 1; i < 5; i++) {
            x.link(0, i, false);
        }
        x.append(0, 1);
        x.append(0, 2);
        x.append(0, 3);
        x.beat(1);
        CHECK.is("its own", x.ofCopy(0, 0, 3), 5);
        x.door(1);
        x.beat(5);
        CHECK.is("another one", x.guide(0), 1);
        copy(x, 1, 0, 1, 2, 1, 3, 3, 0, 2);
        copy(x, 0, 0, 1, 1, 0, 5, 2, 0, 1);
        x.link(0, 1, true);
        x.beat(1);
        copy(x, 0, 0, 0, 2, -1, 3, 3, 0, 2);
        CHECK.is("act", x.act(0, 0, 2), "2:n");
        CHECK.is("sunk", x.sunk(), 3);
        CHECK.is("document", x.copyOf(0, 0), "//0/0");
        // A log that is longer and has the same acts ahead is left as it is.
        x.append(0, 4);
        x.fall(0);
        x.fall(2);
        x.beat(1);
        CHECK.is("only there", x.ofCopy(1, 0, 3), 4);
        x.rise(0);
        x.beat(1);
        CHECK.is("known by two", x.ofCopy(1, 0, 4), 4);
        CHECK.is("there too", x.ofCopy(0, 0, 3), 4);
    }

    /** Who hears of its leader is not asked, so that one that is cut off from the leader alone changes nothing. */
    private static void steady() {
        Searchcluster x = Check.settled();
        int asked = x.house(8);
        int won = x.house(9);
        x.link(0, 2, false);
        x.beat(10);
        CHECK.is("asked twice", x.house(8), asked + 2);
        CHECK.is("won never", x.house(9), won);
        copy(x, 2, 0, 0, 3, 2, 1, 1, 0, 1);
        copy(x, 1, 0, 0, 1, 0, 1, 1, 0, 1);
        CHECK.is("answers", x.answers(0), 0);
        // The leader calls 1 first; then 2 tells it of its greater term.
        x.link(0, 2, true);
        x.put(0, false);
        CHECK.is("its turn is over", x.beat(1), 0);
        copy(x, 0, 0, 0, 3, -1, 2, 1, 1, 1);
        copy(x, 1, 0, 0, 1, 0, 2, 1, 0, 1);
        copy(x, 2, 0, 0, 3, 2, 1, 1, 1, 1);
    }

    /** A leader that is not steady follows as it is asked, and gives its vote. */
    private static void greaterTerm() {
        Searchcluster x = Check.settled();
        x.fall(1);
        x.fall(2);
        x.beat(1);
        CHECK.is("leads alone", x.ofCopy(0, 0, 0), 1);
        x.rise(2);
        x.fall(0);
        x.rise(0);
        x.beat(3);
        copy(x, 0, 0, 1, 2, 0, 2, 1, 0, 2);
        copy(x, 2, 0, 0, 2, 0, 1, 1, 0, 1);
    }

    private static void votes() {
        Searchcluster x = Check.settled();
        CHECK.is("of who leads", x.votes(0, 0), -1);
        CHECK.is("of no member", x.votes(3, 0), -1);
        CHECK.is("of all", x.votes(1, 0), 3);
        x.link(1, 2, false);
        CHECK.is("of who is reached", x.votes(1, 0), 2);
        x.fall(0);
        CHECK.is("its own", x.votes(1, 0), 1);
        x.fall(1);
        CHECK.is("of one that is down", x.votes(1, 0), -1);
    }

    private static void votersThatAreAhead() {
        Searchcluster x = Check.settled();
        x.fall(2);
        x.put(0, false);
        x.beat(1);
        x.rise(2);
        CHECK.is("both others are ahead", x.votes(2, 0), 1);
        CHECK.is("not behind", x.votes(1, 0), 3);
        x.fall(0);
        // 2 asks in vain, and its term grows; 1 has its patience and would win then.
        x.beat(4);
        copy(x, 1, 0, 1, 2, 1, 3, 1, 0, 2);
        copy(x, 2, 0, 0, 2, 1, 1, 1, 0, 1);
        Searchcluster y = Check.settled();
        y.link(0, 2, false);
        y.beat(10);
        y.fall(0);
        CHECK.is("one with a greater term ends the asking", y.votes(1, 0), 1);
        CHECK.is("one with a less one does not", y.votes(2, 0), 2);
    }

    private static void votersOfOtherTerms() {
        Searchcluster x = Check.settled();
        x.link(0, 2, false);
        x.beat(5);
        CHECK.is("it asked once", x.ofCopy(2, 0, 1), 2);
        CHECK.is("a like term, with a vote given", x.votes(1, 0), 2);
        x.link(0, 2, true);
        x.beat(1);
        copy(x, 0, 0, 0, 2, -1);
        CHECK.is("a like term, with no vote given", x.votes(1, 0), 2);
        CHECK.is("less terms", x.votes(2, 0), 3);
        // In shard 1, 3 leads, and 1 comes ahead of it as 2 asks.
        Searchcluster y = Check.settled();
        y.link(1, 3, false);
        y.beat(6);
        CHECK.is("it asked once", y.ofCopy(1, 1, 1), 2);
        CHECK.is("no vote, but it asks on", y.votes(2, 1), 2);
        y.beat(6);
        CHECK.is("it asked twice", y.ofCopy(1, 1, 1), 3);
        CHECK.is("it asks no more", y.votes(2, 1), 1);
    }

    private static void nothingNotedAtFirst() {
        Searchcluster x = new Searchcluster();
        x.beat(3);
        x.fall(1);
        x.fall(2);
        x.beat(2);
        CHECK.is("it leads", x.ofCopy(0, 0, 0), 1);
        CHECK.is("nobody else has what it added", x.ofCopy(0, 0, 4), 0);
        x.rise(1);
        x.beat(1);
        CHECK.is("another one has it", x.ofCopy(0, 0, 4), 1);
    }

    /** Node 2 comes back with its patience, and would overthrow a leader that were asked. */
    private static void steadyLeader() {
        Searchcluster x = Check.settled();
        x.link(0, 2, false);
        x.beat(4);
        CHECK.is("patience", x.ofCopy(2, 0, 5), 4);
        x.quit(0, 2);
        x.beat(1);
        x.link(0, 2, true);
        x.beat(10);
        CHECK.is("it asks in vain, as it does not know that it quit", x.ofCopy(2, 0, 1), 4);
        CHECK.is("who leads is not asked", x.ofCopy(0, 0, 1), 1);
        CHECK.is("answers", x.answers(0), 0);
    }

    private static void sunk() {
        Searchcluster x = Check.settled();
        x.put(0, false);
        CHECK.is("none", x.sunk(), 0);
        x.fall(0);
        x.door(1);
        x.settle(30);
        CHECK.is("it stands in the log of one that is down", x.sunk(), 0);
        x.rise(0);
        x.beat(1);
        CHECK.is("sunk", x.sunk(), 1);
        CHECK.is("in no log", x.ofRequest(0, 5), 0);
        CHECK.is("waiting", x.ofRequest(0, 0), 1);
        CHECK.is("again", x.again(0), 2);
        CHECK.is("not sunk", x.sunk(), 0);
    }
}
