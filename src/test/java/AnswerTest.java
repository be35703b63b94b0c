/** Promises 40 to 48: what questions find, in which order, and what is lit. */
public final class AnswerTest {
    private static final Check CHECK = new Check("AnswerTest");

    public static void main(String[] args) {
        order();
        matches();
        phrases();
        scores();
        tallies();
        light();
        refused();
        inCopy();
        CHECK.end();
    }

    private static String found(Searchcluster x, String text) {
        Check.pose(x, 2, text);
        return x.search(2, 0, 10);
    }

    /** 0 "ba di/ba/7/0", 1 "/ba ba ko la/17/1", 2 "fo/di/7/2", 3 "ba di/ba/7/0". */
    private static Searchcluster four() {
        Searchcluster x = Check.settled();
        Check.draft(x, "ba di", "ba", 7, 0);
        x.put(0, false);
        x.put(3, false);
        Check.draft(x, "", "ba ba ko la", 17, 1);
        x.put(1, false);
        Check.draft(x, "fo", "di", 7, 2);
        x.put(2, false);
        x.beat(1);
        return x;
    }

    private static void order() {
        Searchcluster x = four();
        // ba: D 2 in titles, 3 in bodies; N + 1 is 5. 0 and 3: 2 * 5 / (3 * 3) + 5 / (4 * 2); 1: 5 * 2 / (4 * 6).
        CHECK.is("by falling scores, then by rising keys", found(x, "ba"), "0:125/72 3:125/72 1:5/12");
        CHECK.is("from 1 on", x.search(2, 1, 10), "3:125/72 1:5/12");
        CHECK.is("one", x.search(2, 1, 1), "3:125/72");
        CHECK.is("behind the last", x.search(2, 3, 1), "");
        CHECK.is("far behind the last", x.search(2, Integer.MAX_VALUE, 10), "");
        CHECK.is("count", x.count(2), 3);
        CHECK.is("rank", x.rank(2, 3), 1);
        CHECK.is("rank of no hit", x.rank(2, 2), -1);
        CHECK.is("rank of no document", x.rank(2, 47), -1);
        CHECK.is("score", x.score(2, 1), "5/12");
        CHECK.is("score of no hit", x.score(2, 2), "-");
        CHECK.is("score of no document", x.score(2, 47), "-");
        for (int key = 4; key < 48; key++) {
            x.put(key, false);
        }
        x.beat(10);
        CHECK.is("ten of many", found(x, "year: 7"), "0:0 2:0 3:0 4:0 5:0 6:0 7:0 8:0 9:0 10:0");
        CHECK.is("the last two", x.search(2, 45, 10), "46:0 47:0");
        CHECK.is("rank of the last", x.rank(2, 47), 46);
    }

    private static void matches() {
        Searchcluster x = four();
        String[][] due = {{"title: ba", "0 3"}, {"body: ba", "0 3 1"}, {"ba and di", "0 3"}, {"fo or ko", "2 1"},
            {"not ba", "2"}, {"not title: ba", "1 2"}, {"d*", "2 0 3"}, {"k*", "1"}, {"title: l*", ""}, {"year: 7", "0 2 3"},
            {"year: 8 .. 17", "1"}, {"year: 7 .. 17", "0 1 2 3"}, {"year: 17 .. 7", ""}, {"kind: 0", "0 3"},
            {"not kind: 0", "1 2"}, {"ba and not ( di or ko )", ""}, {"ba and not di or fo", "2 1"},
            {"title: ( ba or body: ba )", "0 3 1"}, {"title: ( ( body: di or ko ) )", "2"}, {"not ( not ba )", "0 1 3"},
            {"body: ( ( title: fo ) or ko )", "2 1"}, {"ba and ( fo or ko ) or ba and ba", "0 3 1"},
            {"( ba or not ba ) and kind: 2", "2"}, {"di and ba or kind: 1 and year: 18", "0 3"}};
        for (String[] pair : due) {
            CHECK.is(pair[0], found(x, pair[0]).replaceAll(":[^ ]*", ""), pair[1]);
        }
        CHECK.is("three brackets are too many", found(x, "title: ( ( body: ( di ) or ko ) )"), "!");
    }

    private static void phrases() {
        Searchcluster x = Check.settled();
        Check.draft(x, "ba di", "ba ko ba la di ba di di", 0, 0);
        x.put(0, false);
        x.beat(1);
        CHECK.is("both fields", found(x, "\" ba di \""), found(x, "title: \" ba di \" or body: \" ba di \""));
        // In the body of 8 words: ba stands in 0, 2 and 5, di in 4, 6 and 7. N + 1 is 2, D + 1 is 2: c / (c + 8).
        CHECK.is("just behind", found(x, "body: \" ba di \""), "0:1/9");
        CHECK.is("near 0", found(x, "body: \" ba di \" ~ 0"), "0:1/9");
        CHECK.is("near 1", found(x, "body: \" ba di \" ~ 1"), "0:1/5");
        CHECK.is("near 2", found(x, "body: \" ba di \" ~ 2"), "0:1/5");
        CHECK.is("near 3", found(x, "body: \" ba di \" ~ 3"), "0:3/11");
        CHECK.is("one word", found(x, "body: \" di \" ~ 9"), "0:3/11");
        CHECK.is("in their order", found(x, "body: \" di la \" ~ 9"), "");
        CHECK.is("the same word must stand twice", found(x, "body: \" la la \" ~ 9"), "");
        CHECK.is("the same word", found(x, "body: \" di di \""), "0:1/9");
        CHECK.is("three", found(x, "body: \" ba ba ba \" ~ 2"), "");
        CHECK.is("three", found(x, "body: \" ba ba ba \" ~ 3"), "0:1/9");
        CHECK.is("six", found(x, "\" ba ba la di ba di \""), "");
        CHECK.is("six", found(x, "\" ba ba la di ba di \" ~ 1"), "0:1/9");
    }

    private static void scores() {
        Searchcluster x = four();
        // fo: 2 * 5 / (2 * 2) in the title of 2; ko, la: 5 / (2 * 5) in the body of 1.
        CHECK.is("a title", found(x, "fo"), "2:5/2");
        CHECK.is("a boost", found(x, "^ 3 fo"), "2:15/2");
        CHECK.is("boosts of brackets", found(x, "^ 2 ( ^ 9 ( ^ 4 fo ) )"), "2:180");
        CHECK.is("the sum of an and", found(x, "ko and la"), "1:1");
        CHECK.is("the sum of ors", found(x, "ko or la or ko and ba"), "1:23/12");
        CHECK.is("ands that do not match", found(x, "ko or fo and la"), "1:1/2");
        CHECK.is("nothing of not", found(x, "ko and not fo"), "1:1/2");
        CHECK.is("nothing of two nots", found(x, "not ( not ko )"), "1:0");
        CHECK.is("nothing of years and kinds", found(x, "^ 9 year: 17 and ^ 9 kind: 1"), "1:0");
        CHECK.is("a prefix is the sum of its words", found(x, "title: d*"), "0:10/9 3:10/9");
        CHECK.is("all leaves", found(x, "fo or fo"), "2:5");
        CHECK.is("a field that is not looked at", found(x, "body: ba"), "0:5/8 3:5/8 1:5/12");
        Check.draft(x, "ba", "ba", 0, 0);
        x.put(4, false);
        x.drop(0);
        x.beat(1);
        CHECK.is("of the documents that there are", x.documents(), 4);
        CHECK.is("of them", found(x, "ba"), "4:55/24 3:125/72 1:5/12");
    }

    private static void tallies() {
        Searchcluster x = four();
        x.sample(0, 0);
        CHECK.is("spread", x.spread(0), "2 1 0");
        CHECK.is("facets", x.facets(0), "2 1 0 0 0 0");
        CHECK.is("decades", x.decades(0), "2 1 0 0 0 0 0 0 0 0");
        x.amend(3, true, 5);
        x.amend(3, false, 99);
        x.amend(1, false, 10);
        x.beat(1);
        CHECK.is("facets", x.facets(0), "1 1 0 0 0 1");
        CHECK.is("decades", x.decades(0), "1 1 0 0 0 0 0 0 0 1");
        Check.pose(x, 0, "to");
        CHECK.is("spread of none", x.spread(0), "0 0 0");
        CHECK.is("facets of none", x.facets(0), "0 0 0 0 0 0");
    }

    private static String lit(Searchcluster x, String text) {
        Check.pose(x, 2, text);
        return x.light(2, 0);
    }

    private static void light() {
        Searchcluster x = Check.settled();
        Check.draft(x, "ba di", "ba ko ba la di ba di di", 3, 0);
        x.put(0, false);
        x.beat(1);
        String plain = "ba di/ba ko ba la di ba di di";
        CHECK.is("both fields", lit(x, "ba"), "[ba] di/[ba] ko [ba] la di [ba] di di");
        CHECK.is("again", x.light(2, 0), "[ba] di/[ba] ko [ba] la di [ba] di di");
        CHECK.is("a title", lit(x, "title: ba"), "[ba] di/ba ko ba la di ba di di");
        CHECK.is("a body", lit(x, "body: ( ba or title: di )"), "ba [di]/[ba] ko [ba] la di [ba] di di");
        CHECK.is("a prefix", lit(x, "body: l*"), "ba di/ba ko ba [la] di ba di di");
        CHECK.is("nothing of years", lit(x, "year: 3"), plain);
        CHECK.is("nothing of what is denied", lit(x, "ba and not ( ki or not di )"), "[ba] di/[ba] ko [ba] la di [ba] di di");
        CHECK.is("also of ands that do not match", lit(x, "ko or la and to"), "ba di/ba [ko] ba [la] di ba di di");
        CHECK.is("a phrase", lit(x, "body: \" ba di \""), "ba di/ba ko ba la di [ba] [di] di");
        CHECK.is("the first place behind", lit(x, "body: \" ba di \" ~ 1"), "ba di/ba ko [ba] la [di] [ba] [di] di");
        CHECK.is("word by word", lit(x, "body: \" ba ba di \" ~ 2"), "ba di/[ba] ko [ba] la [di] [ba] [di] di");
        CHECK.is("no hit", lit(x, "to"), "-");
        CHECK.is("no document", x.light(2, 1), "-");
        x.erase();
        x.put(0, false);
        x.beat(1);
        CHECK.is("an empty one", lit(x, "not ba"), "/");
    }

    private static void allRefused(Searchcluster x, int question) {
        CHECK.is("search", x.search(question, 0, 1), "!");
        CHECK.is("count", x.count(question), -9);
        CHECK.is("spread", x.spread(question), "!");
        CHECK.is("facets", x.facets(question), "!");
        CHECK.is("decades", x.decades(question), "!");
        CHECK.is("rank", x.rank(question, 0), -9);
        CHECK.is("score", x.score(question, 0), "!");
        CHECK.is("light", x.light(question, 0), "!");
    }

    private static void refused() {
        Searchcluster x = Check.settled();
        x.put(0, false);
        x.beat(1);
        allRefused(x, 0);
        CHECK.is("in a copy", x.inCopy(0, 0), -9);
        x.sample(0, 0);
        CHECK.is("none", x.count(0), 0);
        x.fall(3);
        allRefused(x, 0);
        CHECK.is("in a copy", x.inCopy(3, 0), 0);
    }

    private static void inCopy() {
        Searchcluster x = four();
        x.sample(0, 0);
        CHECK.is("of who leads shard 0", x.inCopy(0, 0), 2);
        CHECK.is("of who knows nothing yet", x.inCopy(1, 0), 0);
        x.beat(1);
        CHECK.is("of shards 0 and 1", x.inCopy(1, 0), 3);
        CHECK.is("of shard 2", x.inCopy(4, 0), 0);
        x.fall(1);
        x.drop(0);
        x.beat(2);
        CHECK.is("of one that is down", x.inCopy(1, 0), 3);
        CHECK.is("of one that is up", x.inCopy(2, 0), 2);
    }
}
