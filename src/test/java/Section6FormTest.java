/** Section 6 of the document, sentence by sentence: tokens, the form of questions, errors and leaves. */
public final class Section6FormTest {
    private static final Check CHECK = new Check("Section6FormTest");

    public static void main(String[] args) {
        rows();
        tokens();
        sixty();
        mostLeaves();
        sixtyNotWhole();
        or();
        and();
        unit();
        parts();
        phrases();
        years();
        boosts();
        nears();
        kinds();
        brackets();
        firstToken();
        justNotWhole();
        leaves();
        askedAnew();
        CHECK.end();
    }

    /** The ERROR of a QUESTION that is asked token by token, and of each of its beginnings: no beginning has another one. */
    private static void error(String text, int due) {
        Searchcluster x = new Searchcluster();
        String[] signs = text.isEmpty() ? new String[0] : text.split(" ");
        for (int i = 0; i < signs.length; i++) {
            x.ask(2, Check.token(signs[i]), -1, -1, -1, -1);
            int error = x.error(2);
            boolean isStill = due == -1 || i < due;
            CHECK.is("error of the first " + (i + 1) + " of " + text + " is none so far",
                    isStill ? error == -1 || error == i + 1 : error == due, true);
        }
        CHECK.is("error of " + text, x.error(2), due);
        CHECK.is("leaves of " + text + " are told", x.leaves(2) == -1, due != -1);
        CHECK.is("text", x.question(2), text);
    }

    private static void whole(String... texts) {
        for (String text : texts) {
            error(text, -1);
        }
    }

    /** One that is just not whole: what is there could begin a QUESTION. */
    private static void begun(String... texts) {
        for (String text : texts) {
            error(text, text.isEmpty() ? 0 : text.split(" ").length);
        }
    }

    private static void rows() {
        CHECK.section(6, "QUESTIONS: 0 to 2, each a row of at most 60 TOKENS (empty at first).");
        for (int question = 0; question < 3; question++) {
            int q = question;
            Twins twins = new Twins(CHECK, x -> { });
            twins.tells("text at first", "", x -> x.question(q));
            twins.tells("error at first", 0, x -> x.error(q));
            twins.tells("leaves at first", -1, x -> x.leaves(q));
            twins.tells("nothing added", 0, x -> x.ask(q, -1, 0, 0, 0, 0));
            twins.tells("nothing taken", 0, x -> x.unask(q, 0));
            twins.answers("each by itself", "1 0 0", x -> x.ask(q, 0, -1, -1, -1, -1) + " "
                    + x.ask((q + 1) % 3, -1, -1, -1, -1, -1) + " " + x.ask((q + 2) % 3, -1, -1, -1, -1, -1));
        }
    }

    private static void tokens() {
        CHECK.section(6, "TOKENS: 0 to 29 WORDS; 30 to 39 PREFIXES (first letter and \"*\"); 40 ( 41 ) 42 and 43 or 44 not "
                + "45 \" 46 title: 47 body: 48 year: 49 kind: 50 .. 51 ^ 52 ~; 100 to 199 NUMBERS 0 to 99.");
        String[] signs = {"(", ")", "and", "or", "not", "\"", "title:", "body:", "year:", "kind:", "..", "^", "~"};
        Searchcluster x = new Searchcluster();
        for (int token = 0; token < 200; token++) {
            if (token > 52 && token < 100) {
                continue;
            }
            x.ask(0, token, -1, -1, -1, -1);
            String due = token < 30 ? "" + "bdfklmnrst".charAt(token / 3) + "aio".charAt(token % 3)
                    : token < 40 ? "bdfklmnrst".charAt(token - 30) + "*" : token < 100 ? signs[token - 40] : "" + (token - 100);
            CHECK.is("token " + token, x.question(0), due);
            x.unask(0, 1);
        }
        CHECK.section(6, "A QUESTION as a text: its TOKENS with \" \" between.");
        x.ask(0, 0, 42, 29, -1, -1);
        CHECK.is("text", x.question(0), "ba and to");
    }

    /** Fills question 0 with that many tokens: "ba and ba and .. ". */
    private static Searchcluster filled(int many) {
        Searchcluster x = new Searchcluster();
        for (int i = 0; i < many; i++) {
            x.ask(0, i % 2 == 0 ? 0 : 42, -1, -1, -1, -1);
        }
        return x;
    }

    private static void sixty() {
        CHECK.section(6, "each a row of at most 60 TOKENS");
        CHECK.is("sixty, one by one", filled(60).question(0).split(" ").length, 60);
        CHECK.is("59 are whole", filled(59).error(0) + " " + filled(59).leaves(0), "-1 30");
        Searchcluster x = new Searchcluster();
        x.ask(0, 44, -1, -1, -1, -1);
        for (int i = 0; i < 59; i++) {
            x.ask(0, i % 2 == 0 ? 0 : 43, -1, -1, -1, -1);
        }
        CHECK.is("sixty are whole", x.error(0) + " " + x.leaves(0) + " " + x.ask(0, -1, -1, -1, -1, -1), "-1 30 60");
        CHECK.is("sixty in one bracket", bracket(58).error(0) + " " + bracket(58).ask(0, -1, -1, -1, -1, -1), "60 60");
        CHECK.is("59 in one bracket", bracket(57).error(0) + " " + bracket(57).ask(0, -1, -1, -1, -1, -1), "-1 59");
    }

    private static void mostLeaves() {
        CHECK.section(6, "a PREFIX (three: its WORDS, rising)");
        Searchcluster x = Check.settled();
        Check.draft(x, "to", "to ba", 0, 0);
        x.put(0, false);
        x.put(1, false);
        x.beat(1);
        for (int i = 0; i < 59; i++) {
            x.ask(0, i % 2 == 0 ? (i < 58 ? 36 : 39) : 43, -1, -1, -1, -1);
        }
        CHECK.is("as many as there can be", x.leaves(0), 90);
        CHECK.is("the last one", x.leaf(0, 89, 0) + " " + x.leaf(0, 89, 1), "2 2");
        CHECK.is("the one ahead", x.leaf(0, 88, 0) + " " + x.leaf(0, 88, 1), "0 0");
        // 2 * 3 / (3 * 2) and 3 / (3 * 3).
        CHECK.is("it is found by the last one", x.search(0, 0, 10), "0:4/3 1:4/3");
    }

    /** A bracket around that many tokens; with an even number of them the last one is "and". */
    private static Searchcluster bracket(int inner) {
        Searchcluster x = new Searchcluster();
        x.ask(0, 40, -1, -1, -1, -1);
        for (int i = 0; i < inner; i++) {
            x.ask(0, i % 2 == 0 ? 30 : 42, -1, -1, -1, -1);
        }
        x.ask(0, inner % 2 == 0 ? 44 : 41, -1, -1, -1, -1);
        return x;
    }

    private static void sixtyNotWhole() {
        CHECK.section(6, "how many TOKENS there are, if it is just not whole (that a QUESTION has at most 60 TOKENS does not "
                + "matter here)");
        CHECK.is("sixty that end with an and", filled(60).error(0), 60);
        CHECK.is("58 that end with an and", filled(58).error(0), 58);
        Searchcluster x = filled(58);
        x.ask(0, 40, 0, -1, -1, -1);
        CHECK.is("a bracket that could be closed behind the sixtieth alone", x.error(0), 60);
        x.unask(0, 1);
        x.ask(0, 45, -1, -1, -1, -1);
        CHECK.is("a phrase that could end far behind the sixtieth alone", x.error(0), 60);
        x.unask(0, 1);
        x.ask(0, 41, -1, -1, -1, -1);
        CHECK.is("a sixtieth that no question has there", x.error(0), 59);
    }

    private static void or() {
        CHECK.section(6, "OR: AND { \"or\" AND }. (A QUESTION is an OR.)");
        whole("ba", "ba or di", "ba or di or ba or di", "ba and di or ba and di");
        begun("ba or", "ba and di or");
        error("or ba", 0);
        error("ba or or ba", 2);
        error("ba or )", 2);
        error("ba or and di", 2);
    }

    private static void and() {
        CHECK.section(6, "AND: UNIT { \"and\" UNIT }.");
        whole("ba and di", "ba and di and ba and di", "ba and not di", "not ba and not di");
        begun("ba and", "ba and di and");
        error("and", 0);
        error("ba and and ba", 2);
        error("ba and or", 2);
        error("ba di", 1);
        error("ba not di", 1);
        error("ba ^ 2 di", 1);
        error("ba title: di", 1);
        error("ba ( di )", 1);
    }

    private static void unit() {
        CHECK.section(6, "UNIT: [ \"not\" ] [ \"^\" NUMBER ] [ \"title:\" | \"body:\" ] PART.");
        whole("not ba", "^ 2 ba", "title: ba", "body: ba", "not ^ 2 ba", "not title: ba", "^ 2 body: ba", "not ^ 2 title: ba");
        begun("not", "^", "^ 2", "title:", "body:", "not ^", "not ^ 2", "not ^ 2 body:", "^ 2 title:");
        error("not not ba", 1);
        error("^ 2 not ba", 2);
        error("^ 2 ^ 2 ba", 2);
        error("title: not ba", 1);
        error("title: ^ 2 ba", 1);
        error("title: title: ba", 1);
        error("title: body: ba", 1);
        error("body: title: ba", 1);
        error("^ ba", 1);
        error("not and", 1);
        error("not )", 1);
        error("title: )", 1);
    }

    private static void parts() {
        CHECK.section(6, "PART: WORD | PREFIX | PHRASE | \"year:\" NUMBER [ \"..\" NUMBER ] | \"kind:\" NUMBER | \"(\" OR \")\".");
        whole("ba", "to", "b*", "t*", "\" ba \"", "year: 7", "year: 7 .. 9", "kind: 3", "( ba )", "( ba or di )",
                "not ^ 9 body: year: 7", "title: kind: 0", "title: ( kind: 0 and body: b* )");
        for (String sign : new String[] {")", "and", "or", "..", "~", "0", "99"}) {
            error(sign, 0);
            error("not " + sign, 1);
            error("( " + sign, 1);
            error("ba and " + sign, 2);
        }
        error("b* ba", 1);
        error("( ba ) ba", 3);
        error("( ba di )", 2);
        error("( )", 1);
        error("ba )", 1);
        error("ba or ( di ) )", 5);
    }

    private static void phrases() {
        CHECK.section(6, "PHRASE: the sign \", 1 to 6 WORDS, the sign \", [ \"~\" NUMBER ].");
        whole("\" ba \"", "\" ba di \"", "\" ba di fo ko la mi \"", "\" ba ba ba ba ba ba \" ~ 9", "\" ba \" ~ 0 and ba",
                "not ^ 1 title: \" ba \"");
        begun("\"", "\" ba", "\" ba ba ba ba ba ba", "\" ba \" ~", "\" ba \" ~ 3 and");
        error("\" \"", 1);
        CHECK.section(6, "a seventh WORD");
        error("\" ba di fo ko la mi na", 7);
        error("\" ba di fo ko la mi na \"", 7);
        CHECK.section(6, "1 to 6 WORDS");
        for (String sign : new String[] {"b*", "(", ")", "and", "or", "not", "title:", "body:", "year:", "kind:", "..", "^", "~",
            "5"}) {
            error("\" " + sign, 1);
            error("\" ba " + sign, 2);
        }
        error("\" ba \" ba", 3);
        error("\" ba \" \"", 3);
        error("\" ba \" ~ ba", 4);
        error("\" ba \" ~ \"", 4);
        error("\" ba \" ~ 1 ~ 1", 5);
        error("ba ~ 1", 1);
        error("b* ~ 1", 1);
    }

    private static void years() {
        CHECK.section(6, "\"year:\" NUMBER [ \"..\" NUMBER ]");
        whole("year: 0", "year: 99", "year: 0 .. 99", "year: 99 .. 0", "year: 5 .. 5", "year: 5 and ba", "year: 5 .. 6 or ba");
        begun("year:", "year: 5 ..");
        error("year: ba", 1);
        error("year: ..", 1);
        error("year: 5 6", 2);
        error("year: 5 .. ..", 3);
        error("year: 5 .. ba", 3);
        error("year: 5 .. 6 .. 7", 4);
        error("year: 5 ~ 1", 2);
    }

    private static void boosts() {
        CHECK.section(6, "NUMBERS behind \"^\" are 1 to 9");
        for (int number = 0; number <= 11; number++) {
            error("^ " + number + " ba", number >= 1 && number <= 9 ? -1 : 1);
        }
        error("^ 99 ba", 1);
        error("not ^ 0 ba", 2);
        error("ba and ^ 10 ba", 3);
        begun("^ 1", "^ 9");
        error("^ 0", 1);
        error("^ 10", 1);
    }

    private static void nears() {
        CHECK.section(6, "behind \"~\" 0 to 9");
        for (int number = 0; number <= 11; number++) {
            error("\" ba \" ~ " + number, number <= 9 ? -1 : 4);
        }
        error("\" ba di \" ~ 99", 5);
        error("\" ba \" ~ 10 and ba", 4);
    }

    private static void kinds() {
        CHECK.section(6, "behind \"kind:\" 0 to 5");
        for (int number = 0; number <= 7; number++) {
            error("kind: " + number, number <= 5 ? -1 : 1);
        }
        error("kind: 99 or ba", 1);
        error("kind: ba", 1);
        error("kind: 5 .. 5", 2);
        begun("kind:");
    }

    private static void brackets() {
        CHECK.section(6, "At most 2 brackets are open at once.");
        whole("( ba )", "( ( ba ) )", "( ( ba ) or ( di ) )", "( ba ) and ( di ) and ( fo )", "( ( ba ) ) or ( ( di ) )",
                "not ^ 2 title: ( not ^ 2 body: ( not ^ 2 title: ba ) )");
        begun("(", "( (", "( ba", "( ( ba", "( ( ba )", "( ( ba ) and", "( ( ba ) and (");
        CHECK.section(6, "a third bracket likewise");
        error("( ( (", 2);
        error("( ( ( ba ) ) )", 2);
        error("( ( not ( ba ) ) )", 3);
        error("( ( ^ 2 ( ba ) ) )", 4);
        error("( ( title: ( ba ) ) )", 3);
        error("( ( ba and ( ba ) ) )", 4);
        error("( ( ba or not ^ 1 body: ( ba ) ) )", 8);
        error("( ( ba ) and ( ba or ( di ) ) )", 8);
        error("( ( ba ) ) )", 5);
        error("( ba ) )", 3);
        error("ba and ( ( ba ) and ( ( di", 8);
    }

    private static void firstToken() {
        CHECK.section(6, "ERROR: the place of the first TOKEN with which, behind those ahead of it, no QUESTION of this form "
                + "could begin");
        error("ba ba ba )", 1);
        error("ba and kind: 6 ( ( ( (", 3);
        error(") ba", 0);
        error("ba or \" ba \" ~ 3 year:", 7);
        Searchcluster x = new Searchcluster();
        x.ask(0, 0, 1, 2, -1, -1);
        CHECK.is("error", x.error(0), 1);
        x.unask(0, 2);
        CHECK.is("without what was wrong", x.error(0), -1);
        x.ask(0, 42, -1, -1, -1, -1);
        CHECK.is("more of it", x.error(0), 2);
        x.sample(0, 7);
        CHECK.is("a sample", x.error(0), 5);
        x.ask(0, 0, 41, -1, -1, -1);
        CHECK.is("a sample that becomes whole", x.error(0), -1);
        x.ask(0, 41, -1, -1, -1, -1);
        CHECK.is("one more", x.error(0), 7);
        CHECK.section(6, "NONE without one");
        x.sample(0, 0);
        CHECK.is("none", x.error(0), -1);
    }

    /** What is due of each beginning of a question: "." where it is just not whole, "w" where it is whole. */
    private static void beginnings(String text, String due) {
        Searchcluster x = new Searchcluster();
        String[] signs = text.split(" ");
        StringBuilder got = new StringBuilder(x.error(1) == 0 ? "." : "?");
        for (int i = 0; i < signs.length; i++) {
            x.ask(1, Check.token(signs[i]), -1, -1, -1, -1);
            got.append(x.error(1) == -1 ? "w" : x.error(1) == i + 1 ? "." : "?");
        }
        CHECK.is("beginnings of " + text, got.toString(), due);
    }

    private static void justNotWhole() {
        CHECK.section(6, "how many TOKENS there are, if it is just not whole");
        beginnings("not ^ 2 title: ba", "." + "....w");
        beginnings("\" ba di \" ~ 3 or fo", "." + "...w.w.w");
        beginnings("year: 3 .. 4 and kind: 5", "." + ".w.w..w");
        beginnings("( ba or ( di and b* ) or year: 3 ) and ^ 9 kind: 0", "." + "...........w....w");
        begun("");
    }

    private static void leaves(String text, int due) {
        Searchcluster x = new Searchcluster();
        Check.pose(x, 0, text);
        CHECK.is("leaves of " + text, x.leaves(0), due);
    }

    /** However it is asked, and whatever stood there before. */
    private static void askedAnew() {
        CHECK.promise(33, "Adds up to five TOKENS to a QUESTION, up to the first NONE of them.");
        Searchcluster x = Check.settled();
        Check.draft(x, "ba di", "ba ba ko", 5, 1);
        x.put(0, false);
        x.beat(1);
        x.ask(0, 0, 42, 4, -1, -1);
        x.ask(1, 0, -1, -1, -1, -1);
        x.ask(1, 42, -1, -1, -1, -1);
        x.ask(1, 4, -1, -1, -1, -1);
        x.ask(2, 51, 103, 40, 4, -1);
        x.ask(2, 43, 45, 0, 45, 41);
        x.unask(2, 9);
        x.ask(2, 0, 42, 4, -1, -1);
        x.unask(2, 3);
        x.ask(2, 0, 42, 4, -1, -1);
        for (int question = 0; question < 3; question++) {
            CHECK.is("text", x.question(question), "ba and di");
            CHECK.is("leaves", x.leaves(question) + " " + x.leaf(question, 0, 1) + " " + x.leaf(question, 1, 1), "2 1 0");
            CHECK.is("light", x.light(question, 0), "[ba] [di]/[ba] [ba] ko");
            CHECK.is("score", x.search(question, 0, 10), "0:26/15");
        }
        String[][] due = {{"b*", "3"}, {"( ba )", "1"}, {"\" ba ba \" ~ 1", "1"}, {"( year: 5 )", "0"}, {"b* and not d*", "6"},
            {"( ( ba ) or ba )", "2"}, {"year: 5 and kind: 1", "0"}, {"^ 2 body: b*", "3"}, {"( ba )", "1"}, {"ba", "1"}};
        for (String[] pair : due) {
            Check.pose(x, 0, pair[0]);
            CHECK.is("leaves of " + pair[0], x.leaves(0) + "", pair[1]);
        }
        CHECK.is("score of the last", x.search(0, 0, 10), "0:16/15");
        CHECK.is("light of the last", x.light(0, 0), "[ba] di/[ba] [ba] ko");
    }

    private static void leaves() {
        CHECK.section(6, "LEAVES, numbered in the order of TOKENS: a WORD, a PHRASE (one each), a PREFIX (three: its WORDS, "
                + "rising).");
        leaves("ba", 1);
        leaves("b*", 3);
        leaves("\" ba di fo \"", 1);
        leaves("year: 3 .. 4 or kind: 5", 0);
        leaves("not ba and not ( b* or \" ba \" )", 5);
        leaves("ba or ba", 2);
        leaves("ba or", -1);
        leaves("", -1);
        Searchcluster x = Check.settled();
        for (int key = 0; key < 30; key++) {
            x.erase();
            // Each word stands in another number of titles: that tells which one a leaf is.
            for (int word = 0; word < 4; word++) {
                x.write(0, key <= word + 3 ? word : 4, -1, -1, -1);
            }
            x.put(key, false);
        }
        x.beat(10);
        Check.pose(x, 0, "\" ba bi \" or year: 3 or d* or bo and kind: 1 and bi");
        int[] due = {4, 7, 26, 0, 6, 5};
        for (int leaf = 0; leaf < 6; leaf++) {
            CHECK.is("leaf " + leaf, x.leaf(0, leaf, 0), due[leaf]);
            CHECK.is("leaf " + leaf + " in bodies", x.leaf(0, leaf, 1), 0);
        }
    }
}
