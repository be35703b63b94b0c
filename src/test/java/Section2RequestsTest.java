/** Section 2 of the document, sentence by sentence: what requests do, when they are late, the door and the guide. */
public final class Section2RequestsTest {
    private static final Check CHECK = new Check("Section2RequestsTest");

    public static void main(String[] args) {
        numbers();
        draftAsItWas();
        onlyIfThereIsNone();
        drop();
        amend();
        append();
        late();
        lateBehindTheSame();
        outcomeOfPut();
        outcomeOfLikeFacts();
        door();
        guideOfSeveral();
        withoutGuide();
        waiting();
        sentAgain();
        oftenInALog();
        CHECK.end();
    }

    private static void numbers() {
        CHECK.section(2, "A REQUEST has a number (from 0 on, as they are sent for the first time)");
        Searchcluster x = new Searchcluster();
        CHECK.is("refused", x.put(0, false), -9);
        x.settle(30);
        CHECK.is("the first one", x.put(0, false), 0);
        CHECK.is("of another shard", x.drop(1), 1);
        CHECK.is("sent again", x.again(0), 2);
        CHECK.is("refused", x.join(0, 0), -9);
        CHECK.is("the next one", x.amend(47, false, 0), 2);
        CHECK.is("the next one", x.append(5, 0), 3);
        x.fall(0);
        CHECK.is("refused", x.put(0, true), -9);
        x.rise(0);
        x.settle(30);
        CHECK.is("the next one", x.put(0, true), 4);
        CHECK.is("how many", x.house(0), 5);
    }

    private static void draftAsItWas() {
        CHECK.section(2, "PUT: there is the DOCUMENT that the DRAFT was as it was sent; NEW: likewise");
        Searchcluster x = Check.settled();
        Check.draft(x, "ba", "di", 1, 1);
        x.put(0, false);
        x.put(3, true);
        x.write(0, 29, 29, 29, -1);
        x.facts(99, 5);
        x.erase();
        x.beat(1);
        CHECK.is("put", x.document(0), "ba/di/1/1");
        CHECK.is("new", x.document(3), "ba/di/1/1");
        x.write(1, 7, -1, -1, -1);
        CHECK.is("the draft of now is not theirs", x.document(0), "ba/di/1/1");
        x.append(0, 8);
        x.beat(1);
        CHECK.is("nor is what is appended to one that of the other", x.document(3), "ba/di/1/1");
        CHECK.is("nor that of the draft", x.draft(), "/fi/0/0");
        CHECK.section(2, "It can be sent again, as it was");
        Check.draft(x, "to", "", 9, 0);
        x.put(6, false);
        x.erase();
        x.again(3);
        x.fall(0);
        x.rise(0);
        x.settle(30);
        x.beat(1);
        CHECK.is("sent again", x.document(6), "to//9/0");
    }

    private static void onlyIfThereIsNone() {
        CHECK.section(2, "NEW: likewise, but only if there is none with that KEY");
        Searchcluster x = Check.settled();
        x.facts(1, 0);
        CHECK.is("where none is", x.put(0, true), 0);
        x.facts(2, 0);
        CHECK.is("where one is", x.put(0, true), 1);
        CHECK.is("with another key", x.put(3, true), 2);
        x.drop(0);
        x.beat(1);
        CHECK.is("did", x.ofRequest(0, 1), 1);
        CHECK.is("did not", x.ofRequest(1, 1), 0);
        CHECK.is("did", x.ofRequest(2, 1), 1);
        x.facts(3, 0);
        CHECK.is("where one was", x.put(0, true), 4);
        x.facts(4, 0);
        x.put(0, true);
        x.beat(1);
        CHECK.is("did", x.ofRequest(4, 1), 1);
        CHECK.is("did not", x.ofRequest(5, 1), 0);
        CHECK.is("document", x.document(0), "//3/0");
        x.put(0, false);
        x.beat(1);
        CHECK.is("but a put", x.document(0), "//4/0");
    }

    private static void drop() {
        CHECK.section(2, "DROP: the DOCUMENT goes");
        Searchcluster x = Check.settled();
        Check.draft(x, "ba", "di", 44, 4);
        x.drop(0);
        x.put(0, false);
        x.put(3, false);
        x.drop(0);
        x.beat(1);
        CHECK.section(2, "1 if it did something (DROP and AMEND: if there was a DOCUMENT;");
        CHECK.is("of none", x.ofRequest(0, 1), 0);
        CHECK.is("of one", x.ofRequest(3, 1), 1);
        CHECK.is("gone", x.document(0), "-");
        CHECK.is("with another key", x.document(3), "ba/di/44/4");
        x.drop(0);
        x.append(0, 1);
        x.amend(0, false, 1);
        x.beat(1);
        CHECK.is("again", x.ofRequest(4, 1), 0);
        CHECK.is("nothing is left of it", x.document(0), "-");
        x.erase();
        x.put(0, true);
        x.beat(1);
        CHECK.is("nor behind it", x.document(0), "//0/0");
    }

    private static void amend() {
        CHECK.section(2, "AMEND: its YEAR (or its KIND) becomes another one, if there is one");
        Searchcluster x = Check.settled();
        x.amend(0, false, 7);
        x.amend(0, true, 3);
        x.put(0, false);
        x.put(3, false);
        x.beat(1);
        CHECK.is("of none", x.ofRequest(0, 1), 0);
        CHECK.is("of none", x.ofRequest(1, 1), 0);
        CHECK.is("it makes none", x.document(0), "//0/0");
        x.amend(0, false, 99);
        x.beat(1);
        CHECK.is("the year alone", x.document(0), "//99/0");
        x.amend(0, true, 5);
        x.beat(1);
        CHECK.is("the kind alone", x.document(0), "//99/5");
        x.amend(0, false, 0);
        x.amend(0, true, 0);
        x.beat(1);
        CHECK.is("the least", x.document(0), "//0/0");
        CHECK.is("did", x.ofRequest(4, 1) + x.ofRequest(5, 1) + x.ofRequest(6, 1), 3);
        CHECK.is("with another key", x.document(3), "//0/0");
        CHECK.is("the draft stays", x.draft(), "//0/0");
    }

    private static void append() {
        CHECK.section(2, "APPEND: a WORD comes behind its BODY, if there is one, and that has less than 16.");
        Searchcluster x = Check.settled();
        x.append(0, 1);
        x.beat(1);
        CHECK.is("to none", x.ofRequest(0, 1), 0);
        CHECK.is("it makes none", x.document(0), "-");
        x.put(0, false);
        x.append(0, 29);
        x.beat(1);
        CHECK.is("to an empty body", x.document(0), "/to/0/0");
        for (int i = 0; i < 14; i++) {
            x.append(0, 0);
        }
        x.append(0, 5);
        x.append(0, 6);
        x.append(0, 7);
        x.beat(6);
        CHECK.is("to one of 15", x.ofRequest(17, 1), 1);
        CHECK.is("to one of 16", x.ofRequest(18, 1), 0);
        CHECK.is("once more", x.ofRequest(19, 1), 0);
        CHECK.is("behind it", x.document(0), "/to ba ba ba ba ba ba ba ba ba ba ba ba ba ba do/0/0");
    }

    /** Two requests whose first sending sinks with a log that goes: they can be sent again in another order. */
    private static Searchcluster sunkOnes() {
        Searchcluster x = Check.settled();
        x.put(0, false);
        x.beat(2);
        x.append(0, 1);
        x.append(0, 2);
        x.append(3, 3);
        x.fall(0);
        x.door(1);
        x.settle(30);
        x.rise(0);
        x.beat(2);
        return x;
    }

    private static void late() {
        CHECK.section(2, "if its number is greater than that of each REQUEST of its KEY that stands in a place ahead of it");
        Searchcluster x = sunkOnes();
        CHECK.is("sunk", x.sunk(), 3);
        x.again(2);
        x.again(1);
        x.again(3);
        x.beat(1);
        CHECK.is("a greater one", x.ofRequest(2, 1), 1);
        CHECK.section(2, "(LATE otherwise: nothing is done)");
        CHECK.is("a less one behind it", x.ofRequest(1, 1), 2);
        CHECK.is("nothing is done", x.document(0), "/bo/0/0");
        CHECK.section(2, "of each REQUEST of its KEY");
        x = sunkOnes();
        x.again(3);
        x.again(1);
        x.beat(1);
        CHECK.is("a greater one of another key ahead", x.ofRequest(1, 1), 1);
        CHECK.is("it is done", x.document(0), "/bi/0/0");
        x.again(2);
        x.beat(1);
        CHECK.is("a greater one", x.ofRequest(2, 1), 1);
        CHECK.is("it is done", x.document(0), "/bi bo/0/0");
    }

    private static void lateBehindTheSame() {
        CHECK.section(2, "each but the first one in a LOG is LATE");
        Searchcluster x = Check.settled();
        x.put(0, false);
        x.append(0, 1);
        x.again(1);
        x.again(1);
        CHECK.is("two at once", x.beat(1), 2);
        CHECK.is("by its first place", x.ofRequest(1, 1), 1);
        CHECK.is("done once", x.document(0), "/bi/0/0");
        CHECK.is("log", Check.log(x, 0, 0), "1:n 1:r0 1:r1 1:r1 1:r1");
        // A LATE one, and one that did nothing, make others late as well.
        x = sunkOnes();
        x.put(0, true);
        x.again(2);
        x.beat(1);
        CHECK.is("it did nothing", x.ofRequest(4, 1), 0);
        CHECK.is("but stands ahead", x.ofRequest(2, 1), 2);
        CHECK.is("document", x.document(0), "//0/0");
    }

    private static void outcomeOfPut() {
        CHECK.section(2, "PUT always");
        Searchcluster x = Check.settled();
        x.put(0, false);
        x.put(0, false);
        x.drop(0);
        x.put(0, false);
        x.beat(1);
        CHECK.is("where none is", x.ofRequest(0, 1), 1);
        CHECK.is("where the same is", x.ofRequest(1, 1), 1);
        CHECK.is("where one was", x.ofRequest(3, 1), 1);
    }

    private static void outcomeOfLikeFacts() {
        CHECK.section(2, "also if a YEAR is the same then");
        Searchcluster x = Check.settled();
        x.facts(7, 3);
        x.put(0, false);
        x.amend(0, false, 7);
        x.amend(0, true, 3);
        x.beat(1);
        CHECK.is("year", x.ofRequest(1, 1), 1);
        CHECK.is("kind", x.ofRequest(2, 1), 1);
        CHECK.section(2, "0 if it did not, 2 if it was LATE");
        CHECK.is("document", x.document(0), "//7/3");
    }

    private static void door() {
        CHECK.section(2, "The DOOR is a NODE (0 at first) by which all is sent and asked.");
        Searchcluster x = Check.settled();
        CHECK.is("at first", x.house(10), 0);
        CHECK.is("before", x.door(4), 0);
        Check.link(x, false, 0, 1, 2, 3, 4);
        CHECK.is("not by this door", x.put(0, false), -9);
        CHECK.is("not by this door", x.document(0), "!");
        x.door(0);
        CHECK.is("by that one", x.put(0, false), 0);
        CHECK.is("not of others", x.put(1, false), -9);
    }

    /** In shard 0 node 0 leads with the term 1, and 1 with 2; in shard 1 node 3 with 1, and 1 with 2. */
    private static Searchcluster twoLeaders() {
        Searchcluster x = Check.settled();
        Check.link(x, false, 0, 1, 2);
        Check.link(x, false, 3, 1, 2);
        x.beat(5);
        CHECK.is("leader of shard 0", Check.state(x, 0, 0), "leads, term 1, vote 0, acts 1, known 1, patience 0");
        x.beat(4);
        CHECK.is("another one", Check.state(x, 1, 0), "leads, term 2, vote 1, acts 2, known 2, patience 0");
        CHECK.is("leader of shard 1", Check.state(x, 3, 1), "leads, term 1, vote 3, acts 1, known 1, patience 0");
        CHECK.is("another one", Check.state(x, 1, 1), "leads, term 2, vote 1, acts 2, known 2, patience 0");
        return x;
    }

    private static void guideOfSeveral() {
        CHECK.section(2, "GUIDE of a SHARD: of the NODES that the DOOR REACHES and that LEAD the SHARD the one with the "
                + "greatest TERM there.");
        Searchcluster x = twoLeaders();
        x.door(4);
        CHECK.is("the greater number", x.guide(0), 1);
        CHECK.is("the lesser number", x.guide(1), 1);
        x.put(0, false);
        x.put(1, false);
        CHECK.is("sent to it", Check.log(x, 1, 0), "1:n 2:n 2:r0");
        CHECK.is("not to the other one", Check.log(x, 0, 0), "1:n");
        CHECK.is("sent to it", Check.log(x, 1, 1), "1:n 2:n 2:r1");
        CHECK.is("not to the other one", Check.log(x, 3, 1), "1:n");
        x.door(0);
        CHECK.is("a door that leads itself, with a lesser term", x.guide(0), 0);
        x.door(3);
        CHECK.is("a door that reaches one of them", x.guide(1), 3);
        CHECK.is("a door that reaches the other one", x.guide(0), 0);
        x.link(3, 0, false);
        CHECK.is("a door that reaches none", x.guide(0), -1);
        x.door(1);
        x.fall(1);
        CHECK.is("a door that is down", x.guide(1), -1);
    }

    private static void withoutGuide() {
        CHECK.section(2, "which adds it to its LOG; without one it is REFUSED");
        Twins none = new Twins(CHECK, x -> x.settle(3));
        none.refused("put", x -> x.put(2, false));
        none.refused("new", x -> x.put(47, true));
        none.refused("drop", x -> x.drop(2));
        none.refused("amend", x -> x.amend(2, false, 5));
        none.refused("append", x -> x.append(2, 5));
        none.answers("a shard that has one", 0, x -> x.put(0, false));
        Twins sent = new Twins(CHECK, x -> {
            x.settle(30);
            x.put(0, false);
            x.put(1, false);
            x.link(0, 3, false);
        });
        sent.refused("again", x -> x.again(1));
        sent.refused("put", x -> x.put(4, false));
        sent.answers("again, of a shard that has one", 2, x -> x.again(0));
        Twins alone = new Twins(CHECK, x -> {
            x.settle(30);
            x.fall(1);
            x.fall(2);
        });
        alone.answers("who leads is the guide, also if it cannot answer", 0, x -> x.put(0, false));
    }

    private static void waiting() {
        CHECK.section(2, "It is WAITING then, till it is ACKNOWLEDGED (section 4).");
        Searchcluster x = Check.settled();
        x.put(0, false);
        CHECK.is("waiting", x.ofRequest(0, 0) + " " + x.ofRequest(0, 1), "1 -1");
        CHECK.is("house", x.house(1) + " " + x.house(2), "1 0");
        x.fall(1);
        x.fall(2);
        CHECK.is("none", x.beat(10), 0);
        CHECK.is("waiting", x.ofRequest(0, 0), 1);
        x.rise(2);
        CHECK.is("one", x.beat(1), 1);
        CHECK.is("acknowledged", x.ofRequest(0, 0) + " " + x.ofRequest(0, 1), "2 1");
        CHECK.is("house", x.house(1) + " " + x.house(2), "0 1");
        x.fall(0);
        x.beat(10);
        CHECK.is("it stays so", x.ofRequest(0, 0), 2);
    }

    private static void sentAgain() {
        CHECK.section(2, "(it is added once more, also where it stands already)");
        Searchcluster x = Check.settled();
        x.put(0, false);
        CHECK.is("twice", x.again(0), 2);
        CHECK.is("log", Check.log(x, 0, 0), "1:n 1:r0 1:r0");
        CHECK.is("no request of its own", x.house(0), 1);
        CHECK.is("acknowledged", x.beat(1), 1);
        Twins twins = new Twins(CHECK, y -> {
            y.settle(30);
            y.put(0, false);
            y.put(3, false);
            y.beat(1);
            y.put(6, false);
        });
        CHECK.promise(10, "REFUSED without a GUIDE, or if it is ACKNOWLEDGED");
        twins.refused("acknowledged", y -> y.again(0));
        twins.refused("acknowledged", y -> y.again(1));
        twins.answers("waiting", 2, y -> y.again(2));
        Twins both = new Twins(CHECK, y -> {
            y.settle(30);
            y.put(0, false);
            y.beat(1);
            y.fall(0);
        });
        both.refused("acknowledged, and no guide: told once", y -> y.again(0));
    }

    private static void oftenInALog() {
        CHECK.section(2, "the same REQUEST can so stand in a LOG more often than once");
        Searchcluster x = Check.settled();
        x.put(0, false);
        for (int i = 2; i < 9; i++) {
            CHECK.is("again", x.again(0), i);
        }
        CHECK.is("sent", x.ofRequest(0, 4), 8);
        CHECK.is("acts", x.ofCopy(0, 0, 3), 9);
        CHECK.is("one log", x.ofRequest(0, 5), 1);
        CHECK.is("once", x.beat(3), 1);
        CHECK.is("three logs", x.ofRequest(0, 5), 3);
        CHECK.is("known", x.ofCopy(0, 0, 4), 9);
        CHECK.is("outcome", x.ofRequest(0, 1), 1);
    }
}
