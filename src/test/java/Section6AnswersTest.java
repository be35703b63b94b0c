/** Section 6 of the document, sentence by sentence: what matches, what it scores, in which order, and what is refused. */
public final class Section6AnswersTest {
    private static final Check CHECK = new Check("Section6AnswersTest");

    public static void main(String[] args) {
        looksAt();
        boost();
        denied();
        countOfWords();
        countOfPhrases();
        phraseNear();
        leafInDocuments();
        leafWhereNobodyLooks();
        wordsMatch();
        yearsMatch();
        kindsMatch();
        unitsMatch();
        sums();
        score();
        lengths();
        asText();
        hits();
        refused();
        documentsOfLeaders();
        CHECK.end();
    }

    private static String found(Searchcluster x, String text) {
        Check.pose(x, 2, text);
        return x.search(2, 0, 10);
    }

    private static String keys(Searchcluster x, String text) {
        return found(x, text).replaceAll(":[^ ]*", "");
    }

    private static void put(Searchcluster x, int key, String title, String body, int year, int kind) {
        Check.draft(x, title, body, year, kind);
        x.put(key, false);
    }

    /** One document alone: N + 1 is 2, D + 1 is 1 or 2. */
    private static Searchcluster one(String title, String body) {
        Searchcluster x = Check.settled();
        put(x, 0, title, body, 0, 0);
        x.beat(1);
        return x;
    }

    private static void looksAt() {
        CHECK.section(6, "A PART looks at the FIELD that its UNIT tells; if it tells none, at what the bracket looks at in which "
                + "it stands (the next one around it that tells one); otherwise at both FIELDS.");
        Searchcluster x = Check.settled();
        put(x, 0, "ba", "", 0, 0);
        put(x, 1, "", "ba", 0, 0);
        put(x, 2, "ba", "ba", 0, 0);
        x.beat(1);
        String[][] due = {{"ba", "2 0 1"}, {"title: ba", "0 2"}, {"body: ba", "1 2"}, {"title: ( ba )", "0 2"},
            {"body: ( ba )", "1 2"}, {"title: ( body: ba )", "1 2"}, {"body: ( title: ba )", "0 2"}, {"title: ( ( ba ) )", "0 2"},
            {"title: ( body: ( ba ) )", "1 2"}, {"body: ( title: ( ba ) )", "0 2"}, {"title: ( body: ( title: ba ) )", "0 2"},
            {"( title: ( ba ) )", "0 2"}, {"( title: ba or fo ) and ba", "2 0"}, {"title: ( ba ) and ba", "2 0"},
            {"title: ( ba or body: ba )", "2 0 1"}, {"title: ( \" ba \" )", "0 2"}, {"body: b*", "1 2"},
            {"title: fo or ba", "2 0 1"}, {"title: ( ( fo ) or ba )", "0 2"}, {"title: ( body: fo or ba )", "0 2"},
            {"title: ( body: ( fo ) or ba )", "0 2"}, {"title: kind: 0", "0 1 2"}, {"body: year: 0", "0 1 2"}};
        for (String[] pair : due) {
            CHECK.is(pair[0], keys(x, pair[0]), pair[1]);
        }
    }

    private static void boost() {
        CHECK.section(6, "BOOST of a PART: the NUMBER behind \"^\" of its UNIT (1 without), times that of each UNIT in whose "
                + "bracket it stands.");
        Searchcluster x = one("ba", "");
        // 2 * 2 * 1 / (2 * 2) in a title of one word.
        String[][] due = {{"ba", "1"}, {"^ 1 ba", "1"}, {"^ 2 ba", "2"}, {"^ 9 ba", "9"}, {"^ 2 ( ba )", "2"}, {"^ 2 ( ^ 3 ba )", "6"},
            {"^ 2 ( ^ 3 ( ^ 4 ba ) )", "24"}, {"^ 9 ( ^ 9 ( ^ 9 ba ) )", "729"}, {"( ^ 3 ( ba ) )", "3"}, {"^ 2 ( ( ^ 4 ba ) )", "8"},
            {"^ 2 ba or ba", "3"}, {"^ 2 ( ba ) or ba", "3"}, {"^ 2 ( ^ 3 ba or ba )", "8"}, {"^ 2 ( ^ 3 ( ba ) and ba )", "8"},
            {"^ 9 \" ba \"", "9"}, {"^ 9 title: b*", "9"}};
        for (String[] pair : due) {
            CHECK.is(pair[0], found(x, pair[0]), "0:" + pair[1]);
        }
    }

    private static void denied() {
        CHECK.section(6, "It is DENIED, if its UNIT, or one in whose bracket it stands, has \"not\".");
        Searchcluster x = one("ba di", "");
        String[][] due = {{"ba and not fo", "[ba] di/"}, {"not ( not ba )", "ba di/"}, {"not ( not ( ba ) )", "ba di/"},
            {"di and not ( ba and fo )", "ba [di]/"}, {"di and not ( fo and ( ba ) )", "ba [di]/"},
            {"not fo and ba", "[ba] di/"}, {"not ( fo ) or ba", "[ba] di/"}, {"( not fo or di ) and ba", "[ba] [di]/"}};
        for (String[] pair : due) {
            Check.pose(x, 0, pair[0]);
            CHECK.is(pair[0], x.light(0, 0), pair[1]);
        }
        CHECK.section(6, "of a UNIT 0 with \"not\"");
        CHECK.is("a bracket that is denied twice", found(x, "not ( not ba )"), "0:0");
        CHECK.is("in a bracket that is denied", found(x, "not ( fo or not ( ba and di ) )"), "0:0");
        CHECK.is("beside it", found(x, "ba and not ( not di )"), found(x, "ba"));
    }

    private static void countOfWords() {
        CHECK.section(6, "COUNT of a LEAF in a FIELD of a DOCUMENT: of a WORD how often it stands there");
        Searchcluster x = one("ba ba di ba", "ba di di");
        // c / (c + l), as N + 1 and D + 1 are alike: twice 3 / 7 in the title, 1 / 4 in the body.
        CHECK.is("title", found(x, "title: ba"), "0:6/7");
        CHECK.is("body", found(x, "body: ba"), "0:1/4");
        CHECK.is("title", found(x, "title: di"), "0:2/5");
        CHECK.is("body", found(x, "body: di"), "0:2/5");
        CHECK.is("none", found(x, "body: fo"), "");
        x = one("", "ba ba ba ba ba ba ba ba ba ba ba ba ba ba ba ba");
        CHECK.is("sixteen", found(x, "ba"), "0:1/2");
    }

    private static void countOfPhrases() {
        CHECK.section(6, "in how many places its first WORD stands such that the others stand behind that, in their order, with "
                + "the last one at most k - 1 + n places behind the first one");
        Searchcluster x = one("", "ba ba ba di ba di");
        // Six words: c / (c + 6).
        CHECK.is("just behind", found(x, "\" ba di \""), "0:1/4");
        CHECK.is("one place more", found(x, "\" ba di \" ~ 1"), "0:1/3");
        CHECK.is("two places more", found(x, "\" ba di \" ~ 2"), "0:2/5");
        CHECK.is("a word alone", found(x, "\" ba \""), "0:2/5");
        CHECK.is("a word alone, near", found(x, "\" ba \" ~ 9"), "0:2/5");
        CHECK.is("the same word", found(x, "\" ba ba \""), "0:1/4");
        CHECK.is("the same word, near", found(x, "\" ba ba \" ~ 1"), "0:1/3");
        CHECK.is("thrice", found(x, "\" ba ba ba \""), "0:1/7");
        CHECK.is("four times", found(x, "\" ba ba ba ba \""), "");
        CHECK.is("four times, near", found(x, "\" ba ba ba ba \" ~ 1"), "0:1/7");
        CHECK.is("in their order", found(x, "\" di ba \""), "0:1/7");
        CHECK.is("not the other way round", found(x, "\" di di ba \" ~ 9"), "");
        CHECK.is("six words", found(x, "\" ba ba ba di ba di \""), "0:1/7");
        CHECK.is("to the end", found(x, "\" di ba di \""), "0:1/7");
        CHECK.is("not beyond it", found(x, "\" di ba di ba \" ~ 9"), "");
        x = one("ba di", "ba di");
        CHECK.is("not from one field into the other", found(x, "\" di ba \" ~ 9"), "");
    }

    private static void phraseNear() {
        CHECK.section(6, "at most k - 1 + n places behind the first one");
        for (int k = 2; k <= 6; k++) {
            for (int between = 0; between + k <= 16 && between <= 10; between++) {
                // k - 1 words, some others, and the last word.
                StringBuilder body = new StringBuilder("ba");
                StringBuilder phrase = new StringBuilder("\" ba");
                for (int i = 2; i < k; i++) {
                    body.append(" di");
                    phrase.append(" di");
                }
                for (int i = 0; i < between; i++) {
                    body.append(" fo");
                }
                Searchcluster x = one("", body + " ko");
                for (int near = Math.max(0, between - 1); near <= Math.min(9, between + 1); near++) {
                    CHECK.is(phrase + " ko ~ " + near + ", with " + between + " between",
                            keys(x, phrase + " ko \" ~ " + near), near >= between ? "0" : "");
                }
                CHECK.is(phrase + " ko, with " + between + " between", keys(x, phrase + " ko \""), between == 0 ? "0" : "");
            }
        }
    }

    private static void leafInDocuments() {
        CHECK.section(6, "D of a LEAF in a FIELD: in how many DOCUMENTS (of all SHARDS) its COUNT there is above 0.");
        Searchcluster x = Check.settled();
        put(x, 0, "ba", "di fo di", 0, 0);
        put(x, 1, "ba ba", "di di", 0, 0);
        put(x, 2, "", "di ba di", 0, 0);
        put(x, 5, "", "ko", 0, 0);
        x.beat(1);
        Check.pose(x, 0, "title: ba or \" di di \" or \" di di \" ~ 1 or b* or not di");
        int[][] due = {{2, 1}, {0, 1}, {0, 3}, {2, 1}, {0, 0}, {0, 0}, {0, 3}};
        for (int leaf = 0; leaf < 7; leaf++) {
            CHECK.is("leaf " + leaf, x.leaf(0, leaf, 0) + " " + x.leaf(0, leaf, 1), due[leaf][0] + " " + due[leaf][1]);
        }
        x.drop(1);
        x.beat(1);
        CHECK.is("of the documents that there are", x.leaf(0, 0, 0) + " " + x.leaf(0, 6, 1), "1 2");
        CHECK.section(6, "N: how many DOCUMENTS there are.");
        CHECK.is("documents", x.documents(), 3);
        // 4 * 1 / (2 * 2), with N + 1 = 4.
        CHECK.is("it counts those without the word too", found(x, "ko"), "5:1");
    }

    /** Nothing there asks whether the PART looks at that FIELD. */
    private static void leafWhereNobodyLooks() {
        CHECK.promise(39, "Returns D; REFUSED if a SHARD is not ANSWERED.");
        Searchcluster x = Check.settled();
        put(x, 0, "ba di", "di fo", 0, 0);
        put(x, 1, "ba", "ba di", 0, 0);
        put(x, 2, "", "ba di", 0, 0);
        x.beat(1);
        Check.pose(x, 0, "title: ba or body: ba or title: \" ba di \" or body: \" ba di \" or title: ( d* ) or not body: di");
        int[][] due = {{2, 2}, {2, 2}, {1, 2}, {1, 2}, {0, 0}, {1, 3}, {0, 0}, {1, 3}};
        for (int leaf = 0; leaf < due.length; leaf++) {
            CHECK.is("leaf " + leaf, x.leaf(0, leaf, 0) + " " + x.leaf(0, leaf, 1), due[leaf][0] + " " + due[leaf][1]);
        }
        CHECK.is("no other leaf", x.leaves(0), due.length);
    }

    private static void wordsMatch() {
        CHECK.section(6, "A DOCUMENT MATCHES: a WORD, PHRASE or PREFIX, if the COUNT of it (of one of the three) is above 0 in a "
                + "FIELD at which the PART looks");
        Searchcluster x = Check.settled();
        put(x, 0, "da", "", 0, 0);
        put(x, 1, "", "di", 0, 0);
        put(x, 2, "do", "ba di", 0, 0);
        put(x, 3, "fa", "bo", 0, 0);
        x.beat(1);
        String[][] due = {{"da", "0"}, {"di", "1 2"}, {"do", "2"}, {"d*", "2 0 1"}, {"title: d*", "0 2"}, {"body: d*", "1 2"},
            {"\" ba di \"", "2"}, {"title: \" ba di \"", ""}, {"\" do ba \"", ""}, {"fi", ""}, {"f*", "3"}, {"b*", "2 3"}};
        for (String[] pair : due) {
            String got = keys(x, pair[0]);
            CHECK.is(pair[0], got.length() == pair[1].length() ? sorted(got) : got, sorted(pair[1]));
        }
    }

    private static String sorted(String keys) {
        String[] row = keys.split(" ");
        java.util.Arrays.sort(row);
        return String.join(" ", row);
    }

    private static void yearsMatch() {
        CHECK.section(6, "\"year:\" a its YEAR is a, \"year:\" a \"..\" b it is a to b (no one, if a is above b)");
        Searchcluster x = Check.settled();
        int[] years = {0, 1, 49, 50, 51, 98, 99};
        for (int key = 0; key < years.length; key++) {
            put(x, key, "", "", years[key], 0);
        }
        x.beat(1);
        String[][] due = {{"year: 0", "0"}, {"year: 99", "6"}, {"year: 50", "3"}, {"year: 48", ""}, {"year: 49 .. 51", "2 3 4"},
            {"year: 50 .. 50", "3"}, {"year: 51 .. 49", ""}, {"year: 50 .. 49", ""}, {"year: 0 .. 99", "0 1 2 3 4 5 6"},
            {"year: 99 .. 0", ""}, {"year: 1 .. 98", "1 2 3 4 5"}, {"year: 2 .. 48", ""}, {"not year: 51 .. 49", "0 1 2 3 4 5 6"},
            {"not year: 1 .. 98", "0 6"}, {"year: 0 .. 0", "0"}, {"year: 99 .. 99", "6"}};
        for (String[] pair : due) {
            CHECK.is(pair[0], keys(x, pair[0]), pair[1]);
        }
    }

    private static void kindsMatch() {
        CHECK.section(6, "\"kind:\" likewise");
        Searchcluster x = Check.settled();
        for (int key = 0; key < 6; key++) {
            put(x, key, "", "", 0, key);
        }
        x.beat(1);
        for (int kind = 0; kind < 6; kind++) {
            CHECK.is("kind " + kind, keys(x, "kind: " + kind), "" + kind);
        }
        CHECK.is("not", keys(x, "not kind: 0 and not kind: 5"), "1 2 3 4");
    }

    private static void unitsMatch() {
        CHECK.section(6, "a bracket, if it matches the OR; a UNIT, if it matches the PART (with \"not\": if it does not); an AND "
                + "all its UNITS; an OR at least one AND");
        Searchcluster x = Check.settled();
        for (int key = 0; key < 8; key++) {
            put(x, key, "", (key & 1) == 0 ? "" : "ba", (key & 2) == 0 ? 0 : 1, (key & 4) == 0 ? 0 : 1);
        }
        x.beat(3);
        String[][] due = {{"ba", "1 3 5 7"}, {"not ba", "0 2 4 6"}, {"year: 1 and kind: 1", "6 7"}, {"year: 1 or kind: 1", "2 3 4 5 6 7"},
            {"year: 1 and not kind: 1", "2 3"}, {"not year: 1 and not kind: 1", "0 1"}, {"not year: 1 or not kind: 1", "0 1 2 3 4 5"},
            {"not ( year: 1 and kind: 1 )", "0 1 2 3 4 5"}, {"not ( year: 1 or kind: 1 )", "0 1"}, {"not ( not year: 1 )", "2 3 6 7"},
            {"year: 1 and kind: 1 or ba", "1 3 5 6 7"}, {"year: 1 and ( kind: 1 or ba )", "3 6 7"},
            {"ba or year: 1 and kind: 1", "1 3 5 6 7"}, {"( ba or year: 1 ) and kind: 1", "5 6 7"},
            {"( ba and ( year: 1 or kind: 1 ) )", "3 5 7"}, {"( ( ba ) and year: 1 ) or ( kind: 1 and ( not ba ) )", "3 4 6 7"},
            {"ba and year: 1 and kind: 1", "7"}, {"ba and not ba", ""}, {"ba or not ba", "0 1 2 3 4 5 6 7"},
            {"( ba or ( year: 1 and ( kind: 1 ) ) )", "!"}, {"not ( ( ba and not year: 1 ) or kind: 1 )", "0 2 3"}};
        for (String[] pair : due) {
            CHECK.is(pair[0], sorted(keys(x, pair[0])), pair[1]);
        }
    }

    private static void sums() {
        CHECK.section(6, "of an OR the sum of those ANDs that match; of an AND the sum of its UNITS; of a UNIT 0 with \"not\", "
                + "otherwise that of the PART; of \"year:\" and \"kind:\" 0; of a bracket that of the OR");
        Searchcluster x = one("ba", "di fo");
        // ba: 1; di and fo: 1 / 3 each.
        String[][] due = {{"ba", "1"}, {"di", "1/3"}, {"ba and di", "4/3"}, {"ba or di", "4/3"}, {"ba or ko", "1"}, {"ko or ba", "1"},
            {"ba or ko and di", "1"}, {"ba or di and ko", "1"}, {"di or ko or fo", "2/3"}, {"ba and not ko", "1"}, {"not ko", "0"},
            {"not ko and not ki", "0"}, {"year: 0", "0"}, {"kind: 0", "0"}, {"ba and year: 0", "1"}, {"year: 0 or ba", "1"},
            {"( ba or di ) and fo", "5/3"}, {"( ba or ko ) and fo", "4/3"}, {"( ba or ko and di ) and fo", "4/3"}, {"ba or ba or ba", "3"},
            {"( ( ba ) )", "1"}, {"( ba and ( di or fo ) )", "5/3"}, {"ba and ( ko or not di ) or fo", "1/3"},
            {"( ba and ko ) or di", "1/3"}, {"( ko and ( ba or di ) ) or fo", "1/3"}, {"not ( ko or ki ) and ba", "1"}};
        for (String[] pair : due) {
            CHECK.is(pair[0], found(x, pair[0]), "0:" + pair[1]);
        }
    }

    private static void score() {
        CHECK.section(6, "BOOST * w * (N + 1) * c / ((D + 1) * (c + l))");
        for (int documents = 1; documents <= 4; documents++) {
            for (int with = 1; with <= documents; with++) {
                Searchcluster x = Check.settled();
                for (int key = 0; key < documents; key++) {
                    put(x, key, key < with ? "ba ko" : "ko", key < with ? "ba fo ba" : "fo", 0, 0);
                }
                x.beat(1);
                String where = with + " of " + documents;
                CHECK.section(6, "with w 2 for the TITLE, 1 for the BODY");
                CHECK.is("title of " + where, first(x, "title: ba"), fraction(2 * (documents + 1), (with + 1) * 3));
                CHECK.is("body of " + where, first(x, "body: ba"), fraction((documents + 1) * 2, (with + 1) * 5));
                CHECK.section(6, "the sum, over its LEAVES and the FIELDS at which it looks");
                CHECK.is("both of " + where, first(x, "^ 7 ba"),
                        fraction(7 * (documents + 1) * (2 * 5 + 2 * 3), (with + 1) * 15));
            }
        }
        CHECK.section(6, "where c is above 0");
        Searchcluster x = one("ba", "di");
        CHECK.is("in one of both fields", found(x, "ba") + " " + found(x, "title: ba"), "0:1 0:1");
        CHECK.is("one of three leaves", found(x, "b*") + " " + found(x, "body: d*"), "0:1 0:1/2");
        x = one("ba bi bo", "");
        CHECK.is("three leaves", found(x, "b*") + " " + found(x, "ba"), "0:3/2 0:1/2");
    }

    private static String first(Searchcluster x, String text) {
        return found(x, text).replaceAll("^0:| .*", "");
    }

    private static String fraction(int n, int d) {
        int common = java.math.BigInteger.valueOf(n).gcd(java.math.BigInteger.valueOf(d)).intValue();
        return d == common ? "" + n / common : n / common + "/" + d / common;
    }

    private static void lengths() {
        CHECK.section(6, "l how many WORDS the FIELD has");
        for (int length = 1; length <= 16; length++) {
            StringBuilder row = new StringBuilder("ba");
            for (int i = 1; i < length; i++) {
                row.append(" di");
            }
            CHECK.is("body of " + length, found(one("", row.toString()), "ba"), "0:" + fraction(1, 1 + length));
            if (length <= 4) {
                CHECK.is("title of " + length, found(one(row.toString(), ""), "ba"), "0:" + fraction(2, 1 + length));
            }
        }
    }

    private static void asText() {
        CHECK.section(6, "As a text: the fraction in lowest terms, \"n/d\", or \"n\" if d is 1.");
        Searchcluster x = one("ba", "di ko fo");
        CHECK.is("one", found(x, "ba"), "0:1");
        CHECK.is("none", found(x, "year: 0"), "0:0");
        CHECK.is("a fraction", found(x, "di"), "0:1/4");
        CHECK.is("lowest terms", found(x, "di or ko"), "0:1/2");
        CHECK.is("a whole number of fractions", found(x, "^ 4 di"), "0:1");
        CHECK.is("more than one", found(x, "^ 6 di"), "0:3/2");
        CHECK.is("no digits in front", found(x, "^ 8 di"), "0:2");
        CHECK.is("tens", found(x, "^ 9 ( ^ 9 ( ^ 9 ba or di ) )"), "0:" + fraction(729 * 4 + 81, 4));
        Check.pose(x, 2, "^ 6 di");
        CHECK.promise(46, "Returns SCORE of the DOCUMENT with it");
        CHECK.is("score", x.score(2, 0), "3/2");
    }

    private static void hits() {
        CHECK.section(6, "HITS of a QUESTION are the DOCUMENTS that MATCH, by falling SCORE, with like SCORES by rising KEY.");
        Searchcluster x = Check.settled();
        for (int key = 0; key < 12; key++) {
            put(x, key, "", key % 4 == 3 ? "ba" : key % 4 == 1 ? "ba di" : key % 4 == 0 ? "di ba fo" : "ko", 0, 0);
        }
        x.beat(2);
        CHECK.is("three scores", keys(x, "ba"), "3 7 11 1 5 9 0 4 8");
        CHECK.is("like scores", keys(x, "year: 0"), "0 1 2 3 4 5 6 7 8 9");
        CHECK.is("a sum, and none", keys(x, "ba or ko"), "2 6 10 3 7 11 1 5 9 0");
        CHECK.is("the eleventh", x.search(2, 10, 10).replaceAll(":[^ ]*", ""), "4 8");
        // 3 / (3 + 12) and, twice, 3 / (3 + 13).
        x = Check.settled();
        put(x, 0, "", "ba ba ba di di di di di di di di di di", 0, 0);
        put(x, 3, "", "ba ba ba di di di di di di di di di", 0, 0);
        put(x, 6, "", "ba ba ba di di di di di di di di di di", 0, 0);
        x.beat(1);
        CHECK.is("near each other", found(x, "ba"), "3:1/5 0:3/16 6:3/16");
    }

    private static void allAnswer(Twins twins, int question, boolean isRefused) {
        Twins.Call[] calls = {x -> x.search(question, 0, 1), x -> x.count(question), x -> x.spread(question),
            x -> x.facets(question), x -> x.decades(question), x -> x.rank(question, 0), x -> x.score(question, 0),
            x -> x.light(question, 0)};
        String[] names = {"search", "count", "spread", "facets", "decades", "rank", "score", "light"};
        String[] due = {"0:1/2", "1", "1 0 0", "1 0 0 0 0 0", "1 0 0 0 0 0 0 0 0 0", "0", "1/2", "/[ba]"};
        for (int i = 0; i < calls.length; i++) {
            Twins.Call call = calls[i];
            if (isRefused) {
                twins.refused(names[i], call);
            } else {
                twins.tells(names[i], due[i], x -> "" + call.run(x));
            }
        }
    }

    private static void refused() {
        CHECK.section(6, "A QUESTION is REFUSED, if it has an ERROR, or a SHARD is not ANSWERED.");
        Twins.Recipe recipe = x -> {
            x.settle(30);
            put(x, 0, "", "ba", 0, 0);
            x.beat(2);
            x.sample(0, 0);
            x.ask(1, 0, 42, -1, -1, -1);
        };
        allAnswer(new Twins(CHECK, recipe), 0, false);
        allAnswer(new Twins(CHECK, recipe), 1, true);
        allAnswer(new Twins(CHECK, recipe), 2, true);
        int[] leaders = {0, 3, 2};
        for (int shard = 0; shard < 3; shard++) {
            int leader = leaders[shard];
            Twins down = new Twins(CHECK, x -> {
                recipe.make(x);
                x.door(4);
                x.fall(leader);
            });
            allAnswer(down, 0, true);
            allAnswer(down, 1, true);
            down.refused("leaf", x -> x.leaf(0, 0, 0));
            down.refused("documents", x -> x.documents());
            down.refused("common", x -> x.common(0, 1));
            down.refused("inCopy of one with an error", x -> x.inCopy(0, 1));
            down.tells("inCopy of one without", 1, x -> x.inCopy(0, 0));
            down.tells("leaves of one without an error", 1, x -> x.leaves(0));
        }
        Twins door = new Twins(CHECK, x -> {
            recipe.make(x);
            x.fall(0);
        });
        allAnswer(door, 0, true);
    }

    private static void documentsOfLeaders() {
        CHECK.section(6, "The DOCUMENTS of it are those of the COPIES that answer.");
        Searchcluster x = Check.settled();
        put(x, 0, "", "ba", 0, 0);
        x.beat(1);
        CHECK.is("a copy that answers knows it", keys(x, "ba"), "0");
        CHECK.is("another one does not", x.copyOf(1, 0), "-");
        x.drop(0);
        CHECK.is("as long as it does not know of the drop", keys(x, "ba"), "0");
        x.beat(1);
        CHECK.is("it does", keys(x, "ba"), "");
        CHECK.is("another one does not", x.copyOf(1, 0), "/ba/0/0");
        x.put(3, false);
        x.fall(0);
        x.door(1);
        x.beat(4);
        CHECK.is("not answered", x.documents(), -9);
        x.beat(1);
        CHECK.is("another one that answers", x.answers(0) + " " + x.documents() + " " + keys(x, "ba"), "1 0 ");
    }
}
