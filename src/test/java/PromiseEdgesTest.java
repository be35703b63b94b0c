import java.math.BigInteger;
import java.util.ArrayList;
import java.util.List;

/** What the promises themselves tell of their bounds, beside the sections and the exceptions. */
public final class PromiseEdgesTest {
    private static final Check CHECK = new Check("PromiseEdgesTest");

    public static void main(String[] args) {
        refused();
        write();
        erase();
        facts();
        numbersOfRequests();
        ofRequest();
        doorAndHouse();
        beat();
        settle();
        fallRiseLink();
        reaches();
        ofNode();
        ofCopy();
        act();
        guideAndAnswers();
        members();
        votesOfNone();
        votes();
        sunk();
        documents();
        common();
        askAndUnask();
        questionsTold();
        leaf();
        search();
        tallies();
        rankAndScore();
        inCopy();
        innerThings();
        house();
        digest();
        lastCall();
        CHECK.end();
    }

    private static void refused() {
        CHECK.section(0, "REFUSED is -9 (in texts \"!\"): told by a call where it is LET, but cannot be done; nothing changes then, "
                + "but how often it was told (also by what is asked).");
        Twins.Call[] calls = {x -> x.put(0, false), x -> x.put(0, true), x -> x.drop(0), x -> x.amend(0, true, 0),
            x -> x.append(0, 0), x -> x.join(0, 3), x -> x.quit(0, 0), x -> x.document(0), x -> x.documents(),
            x -> x.common(0, 1), x -> x.leaf(0, 0, 0), x -> x.search(0, 0, 1), x -> x.count(0), x -> x.spread(0), x -> x.facets(0),
            x -> x.decades(0), x -> x.rank(0, 0), x -> x.score(0, 0), x -> x.light(0, 0), x -> x.inCopy(0, 1), x -> x.search(1, 0, 1),
            x -> x.count(2)};
        Twins twins = new Twins(CHECK, x -> x.sample(0, 0));
        for (int i = 0; i < calls.length; i++) {
            twins.refused("call " + i, calls[i]);
        }
        Searchcluster x = new Searchcluster();
        x.sample(0, 0);
        for (int i = 0; i < calls.length; i++) {
            Object got = calls[i].run(x);
            CHECK.is("answer of call " + i, got instanceof String ? got : got.toString(), got instanceof String ? "!" : "-9");
            CHECK.is("how often", x.house(4), i + 1);
        }
        CHECK.section(0, "NONE is -1.");
        CHECK.is("none", x.guide(0) + " " + x.answers(0) + " " + x.leaves(1) + " " + x.error(0) + " " + x.ofCopy(0, 0, 2),
                "-1 -1 -1 -1 -1");
        CHECK.is("these are not refused", x.house(4), calls.length);
        CHECK.is("nor is what throws", throwing(x) + " " + x.house(4), "3 " + calls.length);
    }

    private static int throwing(Searchcluster x) {
        int thrown = 0;
        for (int i = 0; i < 3; i++) {
            try {
                CHECK.is("thrown", i == 0 ? x.put(48, false) : i == 1 ? x.count(3) : x.leaf(2, 0, 0), "nothing told");
            } catch (IndexOutOfBoundsException | IllegalArgumentException e) {
                thrown++;
            }
        }
        return thrown;
    }

    private static void write() {
        CHECK.promise(2, "Adds up to four WORDS to a FIELD of the DRAFT, up to the first NONE of them.");
        Object[][] due = {{0, "//0/0", -1, 1, 2, 3}, {1, "ba//0/0", 0, -1, 2, 3}, {2, "ba bi//0/0", 0, 1, -1, 3},
            {3, "ba bi bo//0/0", 0, 1, 2, -1}, {4, "ba bi bo da//0/0", 0, 1, 2, 3}, {1, "to//0/0", 29, -1, -1, -1}};
        for (Object[] row : due) {
            Searchcluster x = new Searchcluster();
            CHECK.promise(2, "Returns how many WORDS that FIELD has then.");
            CHECK.is("title", x.write(0, (Integer) row[2], (Integer) row[3], (Integer) row[4], (Integer) row[5]), row[0]);
            CHECK.is("draft", x.draft(), row[1]);
            CHECK.is("body by itself", x.write(1, (Integer) row[2], (Integer) row[3], (Integer) row[4], (Integer) row[5]),
                    row[0]);
        }
    }

    private static void erase() {
        CHECK.promise(3, "The DRAFT is empty then, with YEAR 0 and KIND 0.");
        Searchcluster x = new Searchcluster();
        x.write(0, 1, 2, 3, 4);
        for (int i = 0; i < 4; i++) {
            x.write(1, 1, 2, 3, 4);
        }
        x.facts(99, 5);
        CHECK.promise(3, "Returns how many WORDS it had in both FIELDS.");
        CHECK.is("both full", x.erase(), 20);
        CHECK.is("draft", x.draft(), "//0/0");
        CHECK.is("nothing", x.erase(), 0);
        CHECK.is("room again", x.write(0, 1, 2, 3, 4), 4);
        CHECK.is("title alone", x.erase(), 4);
        x.write(1, 1, -1, -1, -1);
        CHECK.is("body alone", x.erase(), 1);
        x.facts(1, 0);
        CHECK.is("no words, but a year", x.erase() + x.draft(), "0//0/0");
    }

    private static void facts() {
        CHECK.promise(4, "Returns the YEAR before.");
        Searchcluster x = new Searchcluster();
        CHECK.is("at first", x.facts(99, 0), 0);
        CHECK.is("before", x.facts(0, 5), 99);
        CHECK.is("before", x.facts(0, 5), 0);
        CHECK.is("draft", x.draft(), "//0/5");
        x.write(0, 1, -1, -1, -1);
        CHECK.is("the words stay", x.facts(7, 1) + x.draft(), "0bi//7/1");
    }

    private static void numbersOfRequests() {
        Searchcluster x = Check.settled();
        CHECK.promise(6, "Returns its number; REFUSED without a GUIDE.");
        CHECK.is("put", x.put(47, false), 0);
        CHECK.is("new", x.put(47, true), 1);
        CHECK.promise(7, "Returns its number; REFUSED without a GUIDE.");
        CHECK.is("drop", x.drop(47), 2);
        CHECK.promise(8, "Returns its number; REFUSED without a GUIDE.");
        CHECK.is("amend", x.amend(47, true, 5), 3);
        CHECK.is("amend", x.amend(47, false, 99), 4);
        CHECK.promise(9, "Returns its number; REFUSED without a GUIDE.");
        CHECK.is("append", x.append(47, 29), 5);
        CHECK.promise(10, "Returns how often it was sent, with this");
        CHECK.is("again", x.again(5), 2);
        CHECK.is("again", x.again(5), 3);
        CHECK.is("another one", x.again(0), 2);
        x.fall(2);
        CHECK.is("refused", x.put(47, false) + x.drop(47) + x.amend(47, true, 5) + x.append(47, 29) + x.again(5), -45);
        CHECK.is("how often it was sent", x.ofRequest(5, 4), 3);
    }

    private static void ofRequest() {
        CHECK.promise(11, "1 OUTCOME (NONE till it is ACKNOWLEDGED)");
        Searchcluster x = Check.settled();
        x.drop(0);
        CHECK.is("waiting", x.ofRequest(0, 0) + " " + x.ofRequest(0, 1), "1 -1");
        x.beat(1);
        CHECK.is("acknowledged, though it did nothing", x.ofRequest(0, 0) + " " + x.ofRequest(0, 1), "2 0");
        CHECK.promise(11, "3 what it does: 0 PUT, 1 NEW, 2 DROP, 3 AMEND, 4 APPEND");
        x.put(46, false);
        x.put(46, true);
        x.drop(46);
        x.amend(46, true, 1);
        x.amend(46, false, 1);
        x.append(46, 1);
        CHECK.is("deeds", x.ofRequest(1, 3) + " " + x.ofRequest(2, 3) + " " + x.ofRequest(3, 3) + " " + x.ofRequest(4, 3) + " "
                + x.ofRequest(5, 3) + " " + x.ofRequest(6, 3), "0 1 2 3 3 4");
        CHECK.is("key", x.ofRequest(0, 2) + " " + x.ofRequest(6, 2), "0 46");
        CHECK.promise(11, "5 in how many LOGS (of all COPIES) it stands");
        x = Section3CopiesTest.withMembers(5);
        x.put(0, false);
        x.again(0);
        CHECK.is("twice in one", x.ofRequest(0, 5), 1);
        x.fall(4);
        x.beat(1);
        CHECK.is("in four", x.ofRequest(0, 5), 4);
        x.rise(4);
        x.beat(1);
        CHECK.is("in all five", x.ofRequest(0, 5), 5);
        x.fall(4);
        x.fall(3);
        CHECK.is("also of those that are down", x.ofRequest(0, 5), 5);
        x = sunkOne();
        CHECK.is("in none", x.ofRequest(0, 5), 0);
    }

    /** A REQUEST that stood in the LOG of 0 alone, and went from it. */
    private static Searchcluster sunkOne() {
        Searchcluster x = Check.settled();
        x.put(0, false);
        x.fall(0);
        x.door(1);
        x.settle(30);
        x.rise(0);
        x.beat(1);
        return x;
    }

    private static void doorAndHouse() {
        CHECK.promise(12, "Returns the one before.");
        Searchcluster x = new Searchcluster();
        int before = 0;
        for (int node : new int[] {4, 3, 3, 0, 1, 2}) {
            CHECK.is("before", x.door(node), before);
            CHECK.is("house", x.house(10), node);
            before = node;
        }
        x.fall(4);
        CHECK.is("one that is down", x.door(4) + " " + x.house(10) + " " + x.house(11), "2 4 0");
    }

    private static void beat() {
        CHECK.promise(18, "BEATS, one behind the other.");
        for (int many = 1; many <= 10; many++) {
            Searchcluster x = Check.settled();
            Searchcluster y = Check.settled();
            for (int i = 0; i < 9; i++) {
                x.put(i % 3, false);
                y.put(i % 3, false);
            }
            x.fall(0);
            y.fall(0);
            int sum = 0;
            for (int i = 0; i < many; i++) {
                sum += x.beat(1);
            }
            CHECK.promise(18, "Returns how many REQUESTS were ACKNOWLEDGED in them.");
            CHECK.is(many + " beats", y.beat(many), sum);
            CHECK.is("beats", y.house(3), 5 + many);
            CHECK.is("as one by one", y.digest(), x.digest());
        }
        CHECK.is("none at first", new Searchcluster().beat(10), 0);
    }

    private static void settle() {
        CHECK.promise(19, "BEATS, as long as a SHARD is not ANSWERED.");
        Searchcluster x = new Searchcluster();
        CHECK.promise(19, "Returns how many there were.");
        CHECK.is("one at most", x.settle(1) + " " + x.house(3), "1 1");
        CHECK.is("four at most, all of them needed", x.settle(4) + " " + x.house(3) + " " + x.house(11), "4 5 3");
        CHECK.is("none, as all are answered", x.settle(30) + " " + x.settle(1) + " " + x.house(3), "0 0 5");
        CHECK.is("just as many as are needed", new Searchcluster().settle(5), 5);
        CHECK.is("not more than are needed", new Searchcluster().settle(6), 5);
        CHECK.is("fewer than are needed", new Searchcluster().settle(4), 4);
        x.fall(3);
        int beats = x.settle(30);
        CHECK.is("one shard that is not answered is enough", beats > 0 && beats < 30 && x.house(11) == 3, true);
        x.door(3);
        CHECK.is("a door that is down", x.settle(30) + " " + x.house(3), "30 " + (35 + beats));
    }

    private static void fallRiseLink() {
        Twins up = new Twins(CHECK, x -> x.settle(30));
        Twins down = new Twins(CHECK, x -> {
            x.settle(30);
            x.fall(4);
        });
        CHECK.promise(13, "Returns 1 if it was UP, otherwise 0 (nothing happens then).");
        up.answers("fall of one that was up", 1, x -> x.fall(4));
        down.tells("fall of one that was down", 0, x -> x.fall(4));
        CHECK.promise(14, "Returns 1 if it was DOWN, otherwise 0 (nothing happens then).");
        down.answers("rise of one that was down", 1, x -> x.rise(4));
        up.tells("rise of one that was up", 0, x -> x.rise(4));
        CHECK.promise(15, "Returns 1 if it was not so, otherwise 0.");
        Twins cut = new Twins(CHECK, x -> x.link(3, 4, false));
        up.answers("cut of a whole one", 1, x -> x.link(3, 4, false));
        up.tells("whole already", 0, x -> x.link(3, 4, true));
        cut.answers("whole of a cut one", 1, x -> x.link(3, 4, true));
        cut.tells("cut already", 0, x -> x.link(3, 4, false));
        CHECK.is("a cut is kept as both fall and rise", cutAndFallen(), "false 1");
    }

    private static String cutAndFallen() {
        Searchcluster x = new Searchcluster();
        x.link(3, 4, false);
        x.fall(3);
        x.fall(4);
        x.rise(4);
        x.rise(3);
        return x.reaches(3, 4) + " " + x.house(7);
    }

    private static void reaches() {
        CHECK.promise(20, "Returns whether the one REACHES the other one.");
        Twins twins = new Twins(CHECK, x -> {
            x.link(0, 4, false);
            x.fall(2);
        });
        for (int i = 0; i < 5; i++) {
            for (int j = 0; j < 5; j++) {
                int a = i;
                int b = j;
                boolean isCut = a + b == 4 && a * b == 0;
                twins.tells(a + " and " + b, a != 2 && b != 2 && !isCut, x -> x.reaches(a, b));
            }
        }
    }

    private static void ofCopy() {
        CHECK.promise(22, "0 ROLE, 1 TERM, 2 VOTE, 3 how many ACTS its LOG has, 4 KNOWN, 5 PATIENCE, 6 the TERM of its last ACT (0 "
                + "without one), 7 how many DOCUMENTS, 8 1 if the NODE is a MEMBER by it, otherwise 0, 9 how many MEMBERS there are "
                + "by it, 10 1 if the NODE CAN ANSWER for the SHARD, otherwise 0");
        // 0 led with the term 1; 1 leads with the term 2; 2 was cut off in between; 4 joined and is cut off.
        Twins twins = new Twins(CHECK, x -> {
            x.settle(30);
            x.put(0, false);
            x.put(3, false);
            x.drop(3);
            x.beat(2);
            x.fall(0);
            x.door(1);
            x.beat(5);
            x.join(0, 4);
            x.beat(1);
            x.link(1, 2, false);
            x.link(1, 4, false);
            x.put(6, false);
            x.beat(2);
        });
        int[][] due = {{0, 1, 0, 4, 4, 0, 1, 1, 1, 3, 0}, {1, 2, 1, 7, 5, 0, 2, 1, 1, 4, 0}, {0, 2, 1, 6, 5, 2, 2, 1, 1, 4, 0},
            {0, 0, -1, 0, 0, 0, 0, 0, 0, 3, 0}, {0, 2, -1, 4, 4, 0, 1, 1, 0, 3, 0}};
        for (int node = 0; node < 5; node++) {
            for (int what = 0; what <= 10; what++) {
                int n = node;
                int w = what;
                twins.tells("of the copy of " + n + ", " + w, due[n][w], x -> x.ofCopy(n, 0, w));
            }
        }
        new Twins(CHECK, x -> x.settle(30)).tells("can answer", 1, x -> x.ofCopy(3, 1, 10));
    }

    private static void act() {
        CHECK.promise(23, "Returns the ACT there: its TERM, \":\", and \"n\" for NOTHING");
        Twins twins = new Twins(CHECK, x -> {
            x.settle(30);
            x.put(0, false);
            x.join(0, 4);
        });
        twins.tells("the first one", "1:n", x -> x.act(0, 0, 0));
        twins.tells("a request", "1:r0", x -> x.act(0, 0, 1));
        twins.tells("the last one", "1:j4", x -> x.act(0, 0, 2));
        twins.fails("one more", IndexOutOfBoundsException.class, x -> x.act(0, 0, 3));
        twins.fails("one ahead", IndexOutOfBoundsException.class, x -> x.act(0, 0, -1));
        twins.fails("the first one of an empty log", IndexOutOfBoundsException.class, x -> x.act(4, 0, 0));
        twins.tells("the only one of another log", "1:n", x -> x.act(1, 0, 0));
        twins.fails("the second one of that", IndexOutOfBoundsException.class, x -> x.act(1, 0, 1));
        Searchcluster x = Check.settled();
        for (int i = 0; i <= 100; i++) {
            x.put(0, false);
        }
        CHECK.is("numbers of more digits", x.act(0, 0, 10) + " " + x.act(0, 0, 11) + " " + x.act(0, 0, 101), "1:r9 1:r10 1:r100");
    }

    private static void guideAndAnswers() {
        Searchcluster x = new Searchcluster();
        x.beat(2);
        CHECK.promise(25, "Returns its GUIDE; NONE.");
        CHECK.is("none yet", x.guide(0) + " " + x.guide(1) + " " + x.guide(2), "-1 -1 -1");
        x.beat(1);
        CHECK.is("two of three", x.guide(0) + " " + x.guide(1) + " " + x.guide(2), "0 3 -1");
        CHECK.promise(26, "Returns the NODE by which it is ANSWERED; NONE.");
        CHECK.is("none yet", x.answers(0) + " " + x.answers(1) + " " + x.answers(2), "-1 -1 -1");
        x.beat(1);
        CHECK.is("two of three", x.answers(0) + " " + x.answers(1) + " " + x.answers(2), "0 3 -1");
        x.fall(0);
        CHECK.is("a door that is down", x.guide(1) + " " + x.answers(1), "-1 -1");
        x.door(2);
        CHECK.is("another one", x.guide(1) + " " + x.answers(1) + " " + x.guide(0), "3 3 -1");
    }

    private static void ofNode() {
        CHECK.promise(21, "0 1 if it is UP, otherwise 0; 1 how many SHARDS it LEADS; 2 how many of its LINKS are whole; 3 how many "
                + "DOCUMENTS its COPIES have");
        Searchcluster x = Check.settled();
        x.fall(2);
        x.settle(30);
        CHECK.is("leads two", x.ofNode(3, 1), 2);
        for (int node = 0; node < 5; node++) {
            x.link(4, node == 4 ? 3 : node, false);
        }
        CHECK.is("no link", x.ofNode(4, 2) + " " + x.ofNode(0, 2), "0 3");
        CHECK.is("down, its links are whole", x.ofNode(2, 0) + " " + x.ofNode(2, 2), "0 3");
        CHECK.is("no documents", x.ofNode(0, 3), 0);
        x = Check.settled();
        for (int key = 0; key < 48; key++) {
            x.put(key, false);
        }
        x.beat(6);
        int[] due = {16, 32, 48, 32, 16};
        for (int node = 0; node < 5; node++) {
            CHECK.is("documents of all its copies", x.ofNode(node, 3), due[node]);
        }
    }

    private static void members() {
        CHECK.promise(24, "Returns MEMBERS by its COPY, rising, with \" \" between.");
        Searchcluster x = Section3CopiesTest.withMembers(5);
        CHECK.is("five", x.members(0, 0), "0 1 2 3 4");
        CHECK.is("by one that joined first", x.members(3, 0), "0 1 2 3 4");
        x = Section3CopiesTest.withMembers(2);
        CHECK.is("two", x.members(0, 0), "0 1");
        x.join(0, 4);
        x.beat(2);
        x.quit(0, 0);
        CHECK.is("rising, whoever joined first", x.members(0, 0), "1 4");
    }

    private static void votesOfNone() {
        CHECK.promise(27, "NONE if it is DOWN, LEADS, or is no MEMBER by itself");
        Twins twins = new Twins(CHECK, x -> {
            x.settle(30);
            x.fall(2);
        });
        twins.tells("down", -1, x -> x.votes(2, 0));
        twins.tells("leads", -1, x -> x.votes(0, 0));
        twins.tells("no member", -1, x -> x.votes(4, 0));
        twins.tells("none of these", 2, x -> x.votes(1, 0));
        Searchcluster x = Check.settled();
        x.quit(0, 1);
        x.beat(1);
        CHECK.is("one that quit, a member by itself, and behind the others", x.votes(1, 0), 1);
        x = Check.settled();
        x.link(0, 4, false);
        x.join(0, 4);
        x.beat(1);
        CHECK.is("one that joined, no member by itself", x.votes(4, 0), -1);
        x.link(0, 4, true);
        x.beat(1);
        CHECK.is("a member by itself", x.votes(4, 0), 4);
    }

    private static void votes() {
        CHECK.promise(27, "how many votes, with its own, it would have if it ASKED now, and nobody were STEADY");
        Searchcluster x = Check.settled();
        CHECK.is("all, though all are steady", x.votes(1, 0) + " " + x.votes(2, 0), "3 3");
        CHECK.is("at first", new Searchcluster().votes(3, 2), 3);
        CHECK.promise(27, "(those till it would ask no more)");
        // 1 asked twice as it was cut off from 0: its term is 3.
        x.link(0, 1, false);
        x.beat(8);
        x.fall(0);
        x.rise(0);
        x.link(0, 1, true);
        CHECK.is("terms", x.ofCopy(0, 0, 1) + " " + x.ofCopy(1, 0, 1) + " " + x.ofCopy(2, 0, 1), "1 3 1");
        CHECK.is("0 asks 1 first, and no more", x.votes(0, 0), 1);
        CHECK.is("2 asks 0 first, then 1, and no more", x.votes(2, 0), 2);
        CHECK.is("1 asks both", x.votes(1, 0), 3);
        // One time less: the term of 1 is just that with which the others would ask.
        x = Check.settled();
        x.link(0, 1, false);
        x.beat(4);
        x.fall(0);
        x.rise(0);
        x.link(0, 1, true);
        CHECK.is("1 has a vote of that term", x.ofCopy(1, 0, 1) + " " + x.ofCopy(1, 0, 2), "2 1");
        CHECK.is("0 asks on, but has no vote of 1", x.votes(0, 0), 2);
        CHECK.is("2 asks on, but has no vote of 1", x.votes(2, 0), 2);
        x.fall(2);
        CHECK.is("without 2", x.votes(0, 0), 1);
        // 0 took the term of 1 as it called it, and gave nobody its vote of that term.
        x = Check.settled();
        x.link(0, 1, false);
        x.beat(4);
        x.link(0, 1, true);
        x.beat(1);
        CHECK.is("0 has no vote of that term", x.ofCopy(0, 0, 1) + " " + x.ofCopy(0, 0, 2), "2 -1");
        CHECK.is("2 asks with that term: a vote of 0, none of 1", x.ofCopy(2, 0, 1) + " " + x.votes(2, 0), "1 2");
        // In shard 0 all are of the term 1, and 1 and 2 gave 0 their votes; 3 joins, and gave none.
        x = Section3CopiesTest.withMembers(4);
        x.fall(0);
        CHECK.is("all votes of a greater term", x.votes(1, 0) + " " + x.votes(3, 0), "3 3");
    }

    private static void sunk() {
        CHECK.promise(28, "Returns how many REQUESTS are WAITING that stand in no LOG.");
        Searchcluster x = Check.settled();
        CHECK.is("none at first", x.sunk(), 0);
        x.put(0, false);
        x.put(1, false);
        CHECK.is("waiting, in logs", x.sunk(), 0);
        x.beat(1);
        CHECK.is("acknowledged", x.sunk(), 0);
        x = sunkOne();
        Searchcluster y = x;
        CHECK.is("sunk", y.sunk(), 1);
        y.put(0, false);
        CHECK.is("and one that is not", y.sunk(), 1);
        y.again(0);
        CHECK.is("sent again", y.sunk(), 0);
    }

    private static void documents() {
        Searchcluster x = Check.settled();
        Twins twins = new Twins(CHECK, y -> y.settle(30));
        CHECK.promise(29, "\"-\" if there is none; \"!\" if its SHARD is not ANSWERED.");
        twins.tells("none", "-", y -> y.document(47));
        twins.tells("of a copy", "-", y -> y.copyOf(4, 47));
        twins.tells("how many", 0, y -> y.documents());
        x.put(0, false);
        x.put(47, false);
        x.beat(1);
        CHECK.is("an empty one is one", x.document(0) + " " + x.documents(), "//0/0 2");
        x.fall(2);
        CHECK.is("its shard", x.document(47) + x.document(0), "!//0/0");
        CHECK.promise(30, "Returns the DOCUMENT with it that the COPY of the NODE has (also of one that is DOWN); \"-\" if there is "
                + "none.");
        CHECK.is("of one that is down", x.copyOf(2, 47), "//0/0");
        CHECK.is("of one that does not know it", x.copyOf(3, 47), "-");
        CHECK.is("of one whose copy has it not at all", x.copyOf(0, 47), "-");
        CHECK.promise(31, "Returns N; REFUSED if a SHARD is not ANSWERED.");
        CHECK.is("one of three", x.documents(), -9);
        x.settle(30);
        CHECK.is("all", x.documents(), 2);
    }

    private static void common() {
        CHECK.promise(32, "Returns the WORDS that stand in that FIELD of most DOCUMENTS, each as it is written, \":\", in how many; by "
                + "falling number, with like ones by rising WORD; without those that stand in none; with \" \" between; \"!\" if a "
                + "SHARD is not ANSWERED.");
        Searchcluster x = Check.settled();
        CHECK.is("without documents", x.common(0, 1) + x.common(1, 10), "");
        Check.draft(x, "to to to to", "ba bi bo da di do fa fi fo ka ki", 0, 0);
        x.put(0, false);
        Check.draft(x, "to ba", "ki", 0, 0);
        x.put(1, false);
        x.beat(1);
        CHECK.is("documents, not places", x.common(0, 10), "to:2 ba:1");
        CHECK.is("one at most", x.common(0, 1), "to:2");
        CHECK.is("ten of eleven", x.common(1, 10), "ki:2 ba:1 bi:1 bo:1 da:1 di:1 do:1 fa:1 fi:1 fo:1");
        CHECK.is("nine", x.common(1, 9), "ki:2 ba:1 bi:1 bo:1 da:1 di:1 do:1 fa:1 fi:1");
        CHECK.is("the same again", x.common(1, 2), "ki:2 ba:1");
        x.drop(0);
        x.drop(1);
        x.beat(1);
        CHECK.is("none any more", x.common(0, 10) + x.common(1, 1), "");
        x.fall(2);
        CHECK.is("not answered", x.common(0, 10), "!");
    }

    private static void askAndUnask() {
        CHECK.promise(33, "Adds up to five TOKENS to a QUESTION, up to the first NONE of them.");
        for (int many = 0; many <= 5; many++) {
            int[] tokens = {0, 42, 1, 43, 2, -1};
            for (int i = many; i < 5; i++) {
                tokens[i] = i == many ? -1 : 199;
            }
            Searchcluster x = new Searchcluster();
            CHECK.promise(33, "Returns how many it has then.");
            CHECK.is("tokens", x.ask(1, tokens[0], tokens[1], tokens[2], tokens[3], tokens[4]), many);
            CHECK.is("text", x.question(1), String.join(" ", List.of("ba", "and", "bi", "or", "bo").subList(0, many)));
        }
        CHECK.promise(34, "Returns how many are left.");
        for (int many = 0; many <= 5; many++) {
            Searchcluster x = new Searchcluster();
            x.ask(1, 0, 42, 1, 43, 2);
            CHECK.is("left", x.unask(1, many), 5 - many);
            CHECK.promise(34, "The last TOKENS go.");
            CHECK.is("text", x.question(1), String.join(" ", List.of("ba", "and", "bi", "or", "bo").subList(0, 5 - many)));
            CHECK.is("error", x.error(1), (5 - many) % 2 == 1 ? -1 : 5 - many);
        }
    }

    private static void questionsTold() {
        CHECK.promise(35, "Returns how many TOKENS it has then.");
        Searchcluster x = new Searchcluster();
        CHECK.is("the least", x.sample(0, 0), 1);
        CHECK.is("the greatest", x.sample(0, 5), 18);
        CHECK.promise(36, "Returns it as a text.");
        CHECK.is("text", x.question(0), "^ 2 body: ( ba and ( not di or ^ 4 \" ko la \" ) )");
        CHECK.is("an empty one", x.question(1), "");
        CHECK.promise(37, "Returns ERROR.");
        CHECK.is("whole, empty", x.error(0) + " " + x.error(1), "-1 0");
        CHECK.promise(38, "Returns how many LEAVES it has; NONE with an ERROR.");
        CHECK.is("whole, empty", x.leaves(0) + " " + x.leaves(1), "3 -1");
        x.unask(0, 1);
        CHECK.is("just not whole", x.error(0) + " " + x.leaves(0), "17 -1");
        Check.pose(x, 2, "year: 3");
        CHECK.is("none", x.error(2) + " " + x.leaves(2), "-1 0");
    }

    private static void leaf() {
        CHECK.promise(39, "Returns D; REFUSED if a SHARD is not ANSWERED.");
        Twins.Recipe recipe = x -> {
            x.settle(30);
            Check.draft(x, "ba", "di ba", 0, 0);
            x.put(0, false);
            x.put(1, false);
            x.put(2, false);
            x.beat(1);
            Check.pose(x, 0, "not title: ba and fo or body: di");
            Check.pose(x, 1, "year: 0");
        };
        Twins twins = new Twins(CHECK, recipe);
        int[][] due = {{3, 3}, {0, 0}, {0, 3}};
        for (int i = 0; i < 3; i++) {
            int leaf = i;
            twins.tells("leaf " + i + " in titles", due[i][0], x -> x.leaf(0, leaf, 0));
            twins.tells("leaf " + i + " in bodies", due[i][1], x -> x.leaf(0, leaf, 1));
        }
        twins.fails("one more", IllegalArgumentException.class, x -> x.leaf(0, 3, 0));
        twins.fails("the first one of none", IllegalArgumentException.class, x -> x.leaf(1, 0, 0));
        Twins refusing = new Twins(CHECK, x -> {
            recipe.make(x);
            x.link(0, 2, false);
        });
        refusing.refused("a shard is not answered", x -> x.leaf(0, 0, 0));
        refusing.fails("exceptions go ahead of that", IllegalArgumentException.class, x -> x.leaf(0, 3, 0));
    }

    private static Searchcluster sixteen() {
        Searchcluster x = Check.settled();
        for (int key = 0; key < 16; key++) {
            x.erase();
            x.facts(key < 2 ? 9 : key < 5 ? 10 : key < 9 ? 89 : key < 14 ? 90 : 99, key % 6);
            x.write(1, 0, -1, -1, -1);
            x.put(key, false);
        }
        x.beat(2);
        x.sample(0, 0);
        Check.pose(x, 1, "to");
        return x;
    }

    private static void search() {
        CHECK.promise(40, "Returns HITS, each its KEY, \":\", its SCORE, with \" \" between; \"!\" if it is REFUSED.");
        Searchcluster x = sixteen();
        CHECK.is("one", x.search(0, 0, 1), "0:1/2");
        CHECK.is("the last one", x.search(0, 15, 1), "15:1/2");
        CHECK.is("the last one, and no more", x.search(0, 15, 10), "15:1/2");
        CHECK.is("behind the last one", x.search(0, 16, 10), "");
        CHECK.is("far behind", x.search(0, Integer.MAX_VALUE, 10), "");
        CHECK.is("two", x.search(0, 3, 2), "3:1/2 4:1/2");
        CHECK.is("ten", x.search(0, 0, 10).split(" ").length, 10);
        CHECK.is("ten, to the end", x.search(0, 6, 10), x.search(0, 6, 5) + " " + x.search(0, 11, 5));
        CHECK.is("nine of ten", x.search(0, 7, 10).split(" ").length, 9);
        CHECK.is("no hits", x.search(1, 0, 10), "");
        CHECK.is("refused", x.search(2, 0, 10), "!");
        CHECK.promise(41, "Returns how many HITS it has; REFUSED.");
        CHECK.is("all", x.count(0) + " " + x.count(1) + " " + x.count(2), "16 0 -9");
    }

    private static void tallies() {
        Searchcluster x = sixteen();
        CHECK.promise(42, "Returns how many HITS are of each SHARD, with \" \" between; \"!\" if it is REFUSED.");
        CHECK.is("spread", x.spread(0) + ", " + x.spread(1) + ", " + x.spread(2), "6 5 5, 0 0 0, !");
        CHECK.promise(43, "Returns how many HITS have each KIND (0 to 5), with \" \" between; \"!\" if it is REFUSED.");
        CHECK.is("facets", x.facets(0) + ", " + x.facets(1) + ", " + x.facets(2), "3 3 3 3 2 2, 0 0 0 0 0 0, !");
        CHECK.promise(44, "Returns how many HITS have a YEAR 0 to 9, 10 to 19, .. 90 to 99, with \" \" between; \"!\" if it is "
                + "REFUSED.");
        CHECK.is("decades", x.decades(0), "2 3 0 0 0 0 0 0 4 7");
        CHECK.is("none, refused", x.decades(1) + ", " + x.decades(2), "0 0 0 0 0 0 0 0 0 0, !");
        x.amend(0, false, 0);
        x.amend(1, false, 19);
        x.amend(2, false, 20);
        x.beat(1);
        CHECK.is("both ends", x.decades(0), "1 3 1 0 0 0 0 0 4 7");
    }

    private static void rankAndScore() {
        Searchcluster x = sixteen();
        x.append(9, 1);
        x.append(9, 1);
        x.beat(1);
        CHECK.promise(45, "Returns the place of the DOCUMENT with it among the HITS; NONE if it is none; REFUSED.");
        CHECK.is("first, second, last", x.rank(0, 0) + " " + x.rank(0, 1) + " " + x.rank(0, 9), "0 1 15");
        CHECK.is("behind it as it was", x.rank(0, 10) + " " + x.rank(0, 15), "9 14");
        CHECK.is("no hit, no document, refused", x.rank(1, 0) + " " + x.rank(0, 47) + " " + x.rank(2, 0), "-1 -1 -9");
        CHECK.promise(46, "Returns SCORE of the DOCUMENT with it; \"-\" if that is no HIT; \"!\" if it is REFUSED.");
        CHECK.is("scores", x.score(0, 0) + " " + x.score(0, 9), "1/2 1/4");
        CHECK.is("no hit, no document, refused", x.score(1, 0) + " " + x.score(0, 47) + " " + x.score(2, 0), "- - !");
        Check.pose(x, 1, "not to");
        CHECK.is("a hit of the score 0", x.score(1, 0) + " " + x.rank(1, 0), "0 0");
    }

    private static void inCopy() {
        CHECK.promise(48, "Returns how many DOCUMENTS of its three COPIES MATCH (whatever they KNOW, also if it is DOWN); REFUSED with "
                + "an ERROR.");
        Searchcluster x = sixteen();
        CHECK.is("of shard 0", x.inCopy(0, 0), 6);
        CHECK.is("of all shards", x.inCopy(2, 0), 13);
        x.beat(1);
        CHECK.is("as they know all", x.inCopy(2, 0) + " " + x.inCopy(4, 0), "16 5");
        CHECK.is("none", x.inCopy(2, 1), 0);
        CHECK.is("an error", x.inCopy(2, 2), -9);
        x.fall(2);
        CHECK.is("down, and not answered", x.inCopy(2, 0) + " " + x.count(0), "16 -9");
        Check.pose(x, 1, "kind: 0 and year: 0 .. 10");
        CHECK.is("some", x.inCopy(2, 1) + " " + x.inCopy(1, 1) + " " + x.inCopy(4, 1), "1 1 0");
        x = new Searchcluster();
        x.sample(0, 0);
        CHECK.is("a new object", x.inCopy(0, 0), 0);
    }

    private static void innerThings() {
        CHECK.promise(49, "Returns how many before.");
        Searchcluster x = new Searchcluster();
        CHECK.is("at first", x.room(1), 4);
        CHECK.is("before", x.room(8) + " " + x.room(8) + " " + x.room(4), "1 8 8");
        Twins twins = new Twins(CHECK, y -> {
            y.settle(30);
            y.put(0, false);
            y.fall(1);
        });
        for (int i = 0; i < 5; i++) {
            int node = i;
            CHECK.promise(50, "Returns 1 if it is UP, otherwise 0 (nothing happens then).");
            twins.tells("pack", node == 1 ? 0 : 1, y -> y.pack(node));
            CHECK.promise(51, "Returns 1 if it is UP, otherwise 0 (nothing happens then).");
            twins.tells("save", node == 1 ? 0 : 1, y -> y.save(node));
        }
        x = sixteen();
        long due = sixteen().digest();
        x.room(1);
        for (int node = 0; node < 5; node++) {
            x.pack(node);
            x.save(node);
        }
        CHECK.is("no answer depends on them", x.digest(), due);
    }

    private static void house() {
        CHECK.promise(52, "0 REQUESTS, 1 how many are WAITING, 2 how many are ACKNOWLEDGED, 3 BEATS, 4 how often REFUSED was told, 5 "
                + "how often one knocked, 6 NODES that are UP, 7 LINKS that are CUT, 8 how often a NODE ASKED, 9 how often one won, "
                + "10 the DOOR, 11 how many SHARDS are ANSWERED");
        Searchcluster x = new Searchcluster();
        x.put(0, false);
        x.count(0);
        x.documents();
        x.common(0, 1);
        x.document(0);
        x.search(0, 0, 1);
        x.inCopy(0, 0);
        x.join(0, 3);
        CHECK.is("refusals of all sorts", x.house(4), 8);
        x.settle(30);
        x.link(0, 1, false);
        x.beat(8);
        CHECK.is("asked more often than won", x.house(8) + " " + x.house(9), "5 3");
        Searchcluster y = new Searchcluster();
        int[][] due = {{0, 0}, {0, 0}, {2, 2}, {3, 3}};
        for (int beat = 0; beat < 4; beat++) {
            y.beat(1);
            CHECK.is("in beat " + beat, y.house(8) + " " + y.house(9), due[beat][0] + " " + due[beat][1]);
        }
        // Cut off: 1 of shard 1 for six beats, 4 of shard 2 for six.
        Check.link(y, false, 3, 1);
        y.beat(6);
        CHECK.is("in shard 1", y.house(8) + " " + y.house(9), "4 3");
        y.link(2, 4, false);
        y.beat(6);
        CHECK.is("in shard 2, and in shard 1", y.house(8) + " " + y.house(9), "6 3");
        y.fall(3);
        y.beat(10);
        CHECK.is("won in shard 1", y.ofCopy(1, 1, 0) + y.ofCopy(2, 1, 0) + " " + y.house(9), "1 4");
        x.put(3, false);
        x.put(4, false);
        x.beat(1);
        x.put(5, false);
        CHECK.is("requests", x.house(0) + " " + x.house(1) + " " + x.house(2), "3 1 2");
        CHECK.is("beats", x.house(3), 14);
        CHECK.promise(53, "Returns how often one knocked, with this.");
        CHECK.is("knocks", x.house(5) + " " + x.knock() + " " + x.knock() + " " + x.house(5), "0 1 2 2");
        for (int node = 0; node < 5; node++) {
            x.fall(node);
        }
        CHECK.is("none is up, none answered", x.house(6) + " " + x.house(11), "0 0");
    }

    /** The whole sum without wrapping, made by what the promise lists. */
    private static BigInteger sum(Searchcluster[] twins) {
        List<Object> all = new ArrayList<>();
        Searchcluster x = twins[0];
        for (int what = 0; what <= 11; what++) {
            all.add(x.house(what));
        }
        for (int i = 0; i < x.house(0); i++) {
            for (int what = 0; what <= 5; what++) {
                all.add(x.ofRequest(i, what));
            }
        }
        for (int node = 0; node < 5; node++) {
            for (int what = 0; what <= 3; what++) {
                all.add(twins[1].ofNode(node, what));
            }
            for (int shard = 0; shard < 3; shard++) {
                for (int what = 0; what <= 10; what++) {
                    all.add(twins[1].ofCopy(node, shard, what));
                }
                all.add(twins[1].members(node, shard));
            }
        }
        for (int key = 0; key < 48; key++) {
            all.add(twins[2].document(key));
        }
        for (int i = 0; i < 3; i++) {
            all.addAll(List.of(twins[2].error(i), twins[2].leaves(i), twins[2].count(i), twins[2].search(i, 0, 10),
                    twins[2].facets(i)));
        }
        all.add(twins[2].isSound() ? 1 : 0);
        BigInteger sum = BigInteger.valueOf(7608);
        for (Object value : all) {
            if (value instanceof String text) {
                for (char sign : text.toCharArray()) {
                    sum = sum.multiply(BigInteger.valueOf(31)).add(BigInteger.valueOf(sign));
                }
            } else {
                sum = sum.multiply(BigInteger.valueOf(31)).add(BigInteger.valueOf((Integer) value));
            }
        }
        return sum;
    }

    private static void digest(String what, Twins.Recipe recipe) {
        Searchcluster[] twins = new Searchcluster[5];
        for (int i = 0; i < 5; i++) {
            twins[i] = new Searchcluster();
            recipe.make(twins[i]);
        }
        BigInteger sum = sum(twins);
        CHECK.is("beyond 64 bits", sum.bitLength() > 64, true);
        CHECK.is("digest of " + what, twins[3].digest(), sum.longValue());
        CHECK.promise(55, "(What is REFUSED within it is not counted.)");
        int refusals = twins[4].house(4);
        twins[4].digest();
        CHECK.is("refusals behind it", twins[4].house(4), refusals);
        CHECK.is("the same again", twins[4].digest(), sum.longValue());
        CHECK.promise(55, "which wraps around as a 64-bit integer");
    }

    private static void digest() {
        CHECK.promise(55, "A number d starts with 7608; then d becomes d * 31 + v");
        CHECK.promise(55, "house() of 0 to 11; REQUEST by REQUEST ofRequest() of 0 to 5; NODE by NODE ofNode() of 0 to 3, then SHARD "
                + "by SHARD ofCopy() of 0 to 10 and members(); KEY by KEY document(); QUESTION by QUESTION error(), leaves(), "
                + "count(), search() from 0, 10 at most, and facets(); 1 if isSound(), otherwise 0.");
        digest("a new object", x -> { });
        digest("one that answers", x -> {
            x.settle(30);
            for (int key = 0; key < 14; key++) {
                x.write(key % 2, key, -1, -1, -1);
                x.facts(key, key % 6);
                x.put(key, false);
                if (key % 3 == 2) {
                    x.erase();
                }
            }
            x.beat(2);
            x.sample(0, 4);
            x.sample(1, 3);
            x.knock();
            x.put(47, true);
        });
        digest("one that is refused", x -> {
            x.settle(30);
            x.put(0, false);
            x.beat(1);
            x.sample(0, 0);
            x.sample(1, 7);
            x.fall(2);
            x.count(0);
        });
    }

    private static void lastCall() {
        CHECK.section(0, "An object is used for at most 512 calls after it has been made; what later calls answer is free.");
        Searchcluster x = new Searchcluster();
        x.settle(30);
        for (int i = 0; i < 509; i++) {
            CHECK.is("request " + i, x.put(0, false), i);
        }
        CHECK.is("the 511th call", x.put(0, false), 509);
        CHECK.is("the 512th call", x.ofCopy(0, 0, 3), 511);
        x = new Searchcluster();
        x.settle(30);
        x.put(0, false);
        for (int i = 2; i < 499; i++) {
            CHECK.is("sent again", x.again(0), i);
        }
        int acknowledged = 0;
        for (int i = 0; i < 12; i++) {
            acknowledged += x.beat(10);
        }
        CHECK.is("the 512th call", acknowledged + " " + x.ofCopy(0, 0, 4), "1 481");
    }
}
