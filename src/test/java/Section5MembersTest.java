/** Section 5 of the document, sentence by sentence: joining and quitting, and when they are refused. */
public final class Section5MembersTest {
    private static final Check CHECK = new Check("Section5MembersTest");

    public static void main(String[] args) {
        withoutGuide();
        joinOfNoMember();
        lessThanFive();
        quitOfAMember();
        moreThanTwo();
        ownTerm();
        oneAtATime();
        atOnce();
        goesOn();
        addedByTheGuide();
        CHECK.end();
    }

    private static void withoutGuide() {
        CHECK.promise(16, "REFUSED (section 5), also without a GUIDE");
        Twins none = new Twins(CHECK, x -> x.beat(2));
        none.refused("join", x -> x.join(0, 3));
        none.refused("quit", x -> x.quit(0, 0));
        Twins down = new Twins(CHECK, x -> {
            x.settle(30);
            x.fall(0);
        });
        down.refused("join by a door that is down", x -> x.join(1, 0));
        CHECK.promise(17, "REFUSED (section 5), also without a GUIDE");
        down.refused("quit by a door that is down", x -> x.quit(1, 1));
        Twins cut = new Twins(CHECK, x -> {
            x.settle(30);
            x.link(0, 3, false);
        });
        cut.refused("join of a shard whose leader is not reached", x -> x.join(1, 0));
        cut.answers("join of another shard", 2, x -> x.join(0, 3));
    }

    private static void joinOfNoMember() {
        CHECK.section(5, "A JOIN (of no MEMBER by the GUIDE, with less than 5 MEMBERS)");
        Twins twins = new Twins(CHECK, x -> x.settle(30));
        for (int i = 0; i < 5; i++) {
            int node = i;
            if (node < 3) {
                twins.refused("join of a member", x -> x.join(0, node));
            } else {
                twins.answers("join of no member", 2, x -> x.join(0, node));
            }
        }
        // 1 has not heard yet that 0 quit: by the guide it did.
        Twins quit = new Twins(CHECK, x -> {
            x.settle(30);
            x.quit(0, 1);
            x.beat(1);
        });
        quit.answers("join of one that quit, and is a member by itself", "0 1 2 3", x -> x.members(1, 0) + " "
                + x.join(0, 1));
        // By itself 4 is no member, as it has not heard of it: by the guide it is.
        Twins joined = new Twins(CHECK, x -> {
            x.settle(30);
            x.link(0, 4, false);
            x.join(0, 4);
            x.beat(1);
        });
        joined.refused("join of one that joined, and is no member by itself", x -> x.join(0, 4));
    }

    private static void lessThanFive() {
        CHECK.section(5, "with less than 5 MEMBERS");
        Twins four = new Twins(CHECK, Section5MembersTest::fourMembers);
        four.answers("a fifth", "3 0 1 2 3 4", x -> x.join(0, 4) + " " + x.members(0, 0));
        Twins five = new Twins(CHECK, x -> {
            fourMembers(x);
            x.join(0, 4);
            x.beat(1);
        });
        for (int i = 0; i < 5; i++) {
            int node = i;
            five.refused("join with five members", x -> x.join(0, node));
            five.answers("quit with five members", 4, x -> x.quit(0, node));
        }
    }

    private static void fourMembers(Searchcluster x) {
        x.settle(30);
        x.join(0, 3);
        x.beat(2);
    }

    private static void quitOfAMember() {
        CHECK.section(5, "a QUIT (of a MEMBER, with more than 2)");
        Twins twins = new Twins(CHECK, x -> x.settle(30));
        for (int i = 0; i < 5; i++) {
            int node = i;
            if (node < 3) {
                twins.answers("quit of a member", 2, x -> x.quit(0, node));
            } else {
                twins.refused("quit of no member", x -> x.quit(0, node));
            }
        }
    }

    private static void moreThanTwo() {
        CHECK.section(5, "with more than 2");
        Twins three = new Twins(CHECK, x -> x.settle(30));
        three.answers("of three", "2 0 1", x -> x.quit(0, 2) + " " + x.members(0, 0));
        Twins two = new Twins(CHECK, x -> {
            x.settle(30);
            x.quit(0, 2);
            x.beat(1);
        });
        two.refused("of two", x -> x.quit(0, 1));
        two.refused("of two, the leader", x -> x.quit(0, 0));
        two.refused("of none of them", x -> x.quit(0, 2));
        two.answers("join of a third", 3, x -> x.join(0, 3));
    }

    private static void ownTerm() {
        CHECK.section(5, "if an ACT of its TERM is KNOWN to it");
        Twins first = new Twins(CHECK, x -> x.beat(3));
        first.refused("join ahead of any known act", x -> x.join(0, 3));
        first.refused("quit ahead of any known act", x -> x.quit(0, 1));
        Twins known = new Twins(CHECK, x -> x.beat(4));
        known.answers("join with one", 2, x -> x.join(0, 3));
        known.answers("quit with one", 2, x -> x.quit(0, 1));
        Twins later = new Twins(CHECK, x -> {
            x.settle(30);
            x.put(0, false);
            x.beat(2);
            x.fall(0);
            x.door(1);
            x.beat(4);
        });
        later.answers("leads, and knows those of another term", "1 2 2", x -> x.guide(0) + " " + x.ofCopy(1, 0, 1) + " "
                + x.ofCopy(1, 0, 4));
        later.refused("join", x -> x.join(0, 3));
        later.refused("quit", x -> x.quit(0, 0));
        later.answers("with one of its own", 4, x -> x.beat(1) + x.join(0, 3));
        later.answers("with one of its own", 4, x -> x.beat(1) + x.quit(0, 0));
    }

    private static void oneAtATime() {
        CHECK.section(5, "and no JOIN or QUIT stands in its LOG that is not KNOWN to it");
        Twins join = new Twins(CHECK, x -> {
            x.settle(30);
            x.join(0, 3);
        });
        join.refused("join behind a join", x -> x.join(0, 4));
        join.refused("quit behind a join", x -> x.quit(0, 1));
        join.refused("quit of the one that joins", x -> x.quit(0, 3));
        join.answers("of another shard", 2, x -> x.quit(1, 1));
        join.answers("as it is known", 3, x -> x.beat(1) + x.join(0, 4));
        Twins quit = new Twins(CHECK, x -> {
            x.settle(30);
            x.quit(0, 2);
        });
        quit.refused("join behind a quit", x -> x.join(0, 4));
        quit.refused("join of the one that quits", x -> x.join(0, 2));
        quit.refused("quit behind a quit", x -> x.quit(0, 1));
        quit.answers("as it is known", 3, x -> x.beat(1) + x.join(0, 2));
        Twins others = new Twins(CHECK, x -> {
            x.settle(30);
            x.join(0, 3);
            x.beat(1);
            x.put(0, false);
            x.drop(0);
        });
        others.answers("requests that are not known are no matter", 5, x -> x.join(0, 4));
        others.answers("nor are joins that are known", 5, x -> x.quit(0, 0));
        // Behind other acts that are not known either.
        Twins behind = new Twins(CHECK, x -> {
            x.settle(30);
            x.put(0, false);
            x.join(0, 3);
            x.put(0, false);
        });
        behind.refused("one that stands between requests", x -> x.join(0, 4));
        // A new leader has one of another term, that it comes to know with its own.
        Twins left = new Twins(CHECK, x -> {
            x.settle(30);
            x.join(0, 4);
            x.beat(1);
            x.fall(0);
            x.door(1);
            x.beat(4);
        });
        left.answers("not known to the new leader", "1 1", x -> x.guide(0) + " " + x.ofCopy(1, 0, 4));
        left.refused("join", x -> x.join(0, 3));
        left.answers("with its own", "0 1:n 1:j4 2:n 4", x -> x.beat(1) + " " + Check.log(x, 1, 0) + " " + x.join(0, 3));
    }

    private static void atOnce() {
        CHECK.section(5, "(It counts for MEMBERS at once;");
        Searchcluster x = Check.settled();
        x.fall(2);
        x.join(0, 3);
        CHECK.is("members", x.members(0, 0), "0 1 2 3");
        CHECK.is("two of four, and one that joins, which is called at once", x.beat(1) + " " + x.ofCopy(0, 0, 4), "0 2");
        CHECK.is("it has the log", Check.log(x, 3, 0), "1:n 1:j3");
        x = Check.settled();
        x.fall(1);
        x.quit(0, 1);
        CHECK.is("members", x.members(0, 0), "0 2");
        x.put(0, false);
        CHECK.is("both of two", x.beat(1), 1);
        x = Check.settled();
        x.fall(2);
        x.fall(3);
        x.fall(4);
        x.join(0, 4);
        x.put(0, false);
        CHECK.is("two of four are no majority any more", x.beat(3) + " " + x.answers(0), "0 -1");
    }

    private static void goesOn() {
        CHECK.section(5, "a NODE that LEADS, and is no MEMBER any more, goes on till its QUIT is KNOWN to it.");
        Searchcluster x = Check.settled();
        x.quit(0, 0);
        x.put(0, false);
        CHECK.is("no member", x.ofCopy(0, 0, 8) + " of " + x.ofCopy(0, 0, 9), "0 of 2");
        CHECK.is("it leads, and can answer", x.ofCopy(0, 0, 0) + " " + x.ofCopy(0, 0, 10) + " " + x.guide(0), "1 1 0");
        x.fall(1);
        x.beat(3);
        CHECK.is("it goes on", x.ofCopy(0, 0, 0) + " " + x.ofCopy(0, 0, 4), "1 1");
        CHECK.is("it calls", Check.log(x, 2, 0), "1:n 1:q0 1:r0");
        x.rise(1);
        CHECK.is("it is known", x.beat(1), 1);
        CHECK.is("it follows", x.ofCopy(0, 0, 0) + " " + x.ofCopy(0, 0, 4), "0 3");
    }

    private static void addedByTheGuide() {
        CHECK.promise(16, "Returns how many ACTS the LOG of the GUIDE has then");
        Searchcluster x = Check.settled();
        x.put(1, false);
        x.put(4, false);
        CHECK.is("join", x.join(1, 0), 4);
        CHECK.is("log of the guide", Check.log(x, 3, 1), "1:n 1:r0 1:r1 1:j0");
        CHECK.is("of nobody else", Check.log(x, 0, 1) + Check.log(x, 2, 1), "1:n");
        x.beat(2);
        CHECK.promise(17, "Returns how many ACTS the LOG of the GUIDE has then");
        CHECK.is("quit", x.quit(1, 2), 5);
        CHECK.is("log of the guide", Check.log(x, 3, 1), "1:n 1:r0 1:r1 1:j0 1:q2");
    }
}
