/** Section 1 of the document, sentence by sentence: words, fields, documents, the draft, keys. */
public final class Section1WordsTest {
    private static final Check CHECK = new Check("Section1WordsTest");
    private static final String[] WORDS = {"ba", "bi", "bo", "da", "di", "do", "fa", "fi", "fo", "ka", "ki", "ko", "la",
        "li", "lo", "ma", "mi", "mo", "na", "ni", "no", "ra", "ri", "ro", "sa", "si", "so", "ta", "ti", "to"};

    public static void main(String[] args) {
        words();
        prefixes();
        title();
        body();
        yearsAndKinds();
        documentAsText();
        draft();
        keys();
        shards();
        CHECK.end();
    }

    private static void words() {
        CHECK.section(1, "WORDS: 0 to 29, each of a first and a second letter");
        Searchcluster x = new Searchcluster();
        for (int word = 0; word < 30; word++) {
            x.erase();
            x.write(1, word, -1, -1, -1);
            CHECK.is("word " + word + " of a document", x.draft(), "/" + WORDS[word] + "/0/0");
            x.ask(0, word, -1, -1, -1, -1);
            CHECK.is("word " + word + " of a question", x.question(0), WORDS[word]);
            x.unask(0, 1);
        }
        CHECK.section(1, "0 \"ba\", 1 \"bi\", 2 \"bo\", 3 \"da\", 29 \"to\"");
        x.erase();
        x.write(0, 0, 1, 2, 3);
        x.write(1, 29, -1, -1, -1);
        CHECK.is("draft", x.draft(), "ba bi bo da/to/0/0");
    }

    private static void prefixes() {
        CHECK.section(1, "PREFIXES: 0 to 9, the first letters: PREFIX p is that of the WORDS 3 * p to 3 * p + 2.");
        Searchcluster x = Check.settled();
        for (int key = 0; key < 30; key++) {
            x.erase();
            x.write(0, key, -1, -1, -1);
            x.put(key, false);
        }
        x.beat(4);
        for (int prefix = 0; prefix < 10; prefix++) {
            x.ask(0, 30 + prefix, -1, -1, -1, -1);
            CHECK.is("prefix " + prefix, x.question(0), WORDS[3 * prefix].charAt(0) + "*");
            int first = 3 * prefix;
            CHECK.is("found by it", x.search(0, 0, 10).replaceAll(":[^ ]*", ""),
                    first + " " + (first + 1) + " " + (first + 2));
            x.unask(0, 1);
        }
    }

    private static void title() {
        CHECK.section(1, "at most 4 in the TITLE, 16 in the BODY");
        Searchcluster x = new Searchcluster();
        CHECK.is("none", x.write(0, -1, -1, -1, -1), 0);
        CHECK.is("three", x.write(0, 1, 2, 3, -1), 3);
        Twins twins = new Twins(CHECK, y -> y.write(0, 1, 2, 3, -1));
        twins.answers("a fourth", 4, y -> y.write(0, 4, -1, -1, -1));
        twins.fails("a fourth and a fifth", IllegalStateException.class, y -> y.write(0, 4, 5, -1, -1));
        CHECK.is("four at once", new Searchcluster().write(0, 1, 2, 3, 4), 4);
        CHECK.is("the fourth is kept", x.write(0, 4, -1, -1, -1) + x.draft(), "4bi bo da di//0/0");
    }

    private static void body() {
        CHECK.section(1, "at most 4 in the TITLE, 16 in the BODY");
        Twins twins = new Twins(CHECK, Section1WordsTest::fifteen);
        twins.answers("a 16th", 16, y -> y.write(1, 29, -1, -1, -1));
        twins.fails("a 16th and a 17th", IllegalStateException.class, y -> y.write(1, 29, 29, -1, -1));
        Searchcluster x = new Searchcluster();
        fifteen(x);
        x.write(1, 29, -1, -1, -1);
        CHECK.is("the 16th is kept", x.draft(), "/ba bi bo da di do fa fi fo ka ki ko la li lo to/0/0");
        CHECK.is("the title has its own room", x.write(0, 0, 0, 0, 0), 4);
    }

    private static void fifteen(Searchcluster x) {
        for (int word = 0; word < 15; word++) {
            x.write(1, word, -1, -1, -1);
        }
    }

    private static void yearsAndKinds() {
        CHECK.section(1, "a YEAR (0 to 99) and a KIND (0 to 5)");
        Twins twins = new Twins(CHECK, x -> x.facts(50, 3));
        twins.answers("the least", "50 //0/0", x -> x.facts(0, 0) + " " + x.draft());
        twins.answers("the greatest", "50 //99/5", x -> x.facts(99, 5) + " " + x.draft());
        twins.fails("a year below", IllegalArgumentException.class, x -> x.facts(-1, 0));
        twins.fails("a year above", IllegalArgumentException.class, x -> x.facts(100, 5));
        twins.fails("a kind below", IllegalArgumentException.class, x -> x.facts(0, -1));
        twins.fails("a kind above", IllegalArgumentException.class, x -> x.facts(99, 6));
    }

    private static void documentAsText() {
        CHECK.section(1, "As a text: its TITLE, \"/\", its BODY (WORDS with \" \" between), \"/\", YEAR, \"/\", KIND "
                + "(\"ba di/bo/7/0\").");
        Searchcluster x = Check.settled();
        x.write(0, 0, 4, -1, -1);
        x.write(1, 2, -1, -1, -1);
        x.facts(7, 0);
        x.put(0, false);
        x.erase();
        x.put(3, false);
        x.write(1, 2, 2, -1, -1);
        x.put(6, false);
        x.erase();
        x.write(0, 29, -1, -1, -1);
        x.facts(10, 5);
        x.put(9, false);
        x.beat(1);
        CHECK.is("both fields", x.document(0), "ba di/bo/7/0");
        CHECK.is("an empty one", x.document(3), "//0/0");
        CHECK.is("without a title", x.document(6), "/bo bo/0/0");
        CHECK.is("without a body", x.document(9), "to//10/5");
    }

    private static void draft() {
        CHECK.section(1, "The DRAFT is a DOCUMENT that is being made (empty at first, YEAR 0, KIND 0).");
        Searchcluster x = Check.settled();
        CHECK.is("at first", x.draft(), "//0/0");
        x.put(0, false);
        x.beat(1);
        CHECK.is("put at once", x.document(0), "//0/0");
        CHECK.is("nothing to erase", new Searchcluster().erase(), 0);
        CHECK.is("the year before", new Searchcluster().facts(1, 1), 0);
    }

    private static void keys() {
        CHECK.section(1, "KEYS: 0 to 47. At most one DOCUMENT has a KEY.");
        Searchcluster x = Check.settled();
        for (int key = 0; key < 48; key++) {
            x.facts(key, 0);
            x.put(key, false);
        }
        x.beat(5);
        CHECK.is("one of each", x.documents(), 48);
        for (int key = 0; key < 48; key++) {
            CHECK.is("document " + key, x.document(key), "//" + key + "/0");
        }
        x.facts(99, 0);
        x.put(47, false);
        x.put(0, false);
        x.beat(1);
        CHECK.is("another one in its place", x.documents(), 48);
        CHECK.is("the other one", x.document(47) + x.document(0), "//99/0//99/0");
        Twins twins = new Twins(CHECK, y -> y.settle(30));
        twins.answers("the last key", 0, y -> y.put(47, false));
        twins.fails("one more", IndexOutOfBoundsException.class, y -> y.put(48, false));
    }

    private static void shards() {
        CHECK.section(1, "SHARDS: 0 to 2; a KEY belongs to the SHARD KEY modulo 3.");
        Searchcluster x = Check.settled();
        for (int key = 0; key < 48; key++) {
            x.put(key, false);
            int leader = new int[] {0, 3, 2}[key % 3];
            CHECK.is("log of the shard of " + key, x.act(leader, key % 3, key / 3 + 1), "1:r" + key);
            x.beat(1);
        }
        CHECK.is("sixteen each", x.ofCopy(0, 0, 7) + " " + x.ofCopy(3, 1, 7) + " " + x.ofCopy(2, 2, 7), "16 16 16");
    }
}
