/** Promises 33 to 39: questions, their errors and their leaves. */
public final class QuestionTest {
    private static final Check CHECK = new Check("QuestionTest");

    public static void main(String[] args) {
        askAndUnask();
        texts();
        samples();
        wholeOnes();
        errors();
        leaves();
        CHECK.end();
    }

    private static void askAndUnask() {
        Searchcluster x = new Searchcluster();
        CHECK.is("five", x.ask(0, 0, 42, 1, 43, 2), 5);
        CHECK.is("none", x.ask(0, -1, 1, 1, 1, 1), 5);
        CHECK.is("two", x.ask(0, 42, 3, -1, 7, -1), 7);
        CHECK.is("another question", x.ask(1, 9, -1, -1, -1, -1), 1);
        CHECK.is("text", x.question(0), "ba and bi or bo and da");
        CHECK.is("none goes", x.unask(0, 0), 7);
        CHECK.is("two go", x.unask(0, 2), 5);
        CHECK.is("text", x.question(0), "ba and bi or bo");
        for (int i = 0; i < 11; i++) {
            x.ask(0, 42, 0, 42, 0, 42);
        }
        CHECK.is("sixty", x.unask(0, 0), 60);
        CHECK.is("none more", x.ask(0, -1, 0, -1, -1, -1), 60);
        x.unask(0, 1);
        CHECK.is("one more", x.ask(0, 0, -1, 0, 0, 0), 60);
        CHECK.is("all go", x.unask(0, 60), 0);
        CHECK.is("text", x.question(0), "");
    }

    private static void texts() {
        Searchcluster x = new Searchcluster();
        x.ask(0, 0, 29, 30, 39, 40);
        x.ask(0, 41, 42, 43, 44, 45);
        x.ask(0, 46, 47, 48, 49, 50);
        x.ask(0, 51, 52, 100, 109, 199);
        CHECK.is("text", x.question(0), "ba to b* t* ( ) and or not \" title: body: year: kind: .. ^ ~ 0 9 99");
        CHECK.is("error", x.error(0), 1);
        CHECK.is("leaves", x.leaves(0), -1);
    }

    private static void samples() {
        String[] due = {"ba", "ba and di", "\" ba di \" ~ 2 or ^ 3 title: fo", "( ba or d* ) and not kind: 2",
            "year: 10 .. 50 and not title: ( ba or bi )", "^ 2 body: ( ba and ( not di or ^ 4 \" ko la \" ) )",
            "k* and year: 7 or \" mi mi mi \"", "ba and ( di or"};
        int[] leaves = {1, 2, 2, 4, 2, 3, 4, -1};
        Searchcluster x = new Searchcluster();
        x.ask(2, 1, 1, 1, 1, 1);
        for (int k = 0; k < 8; k++) {
            CHECK.is("tokens of sample " + k, x.sample(2, k), due[k].split(" ").length);
            CHECK.is("sample " + k, x.question(2), due[k]);
            CHECK.is("error of sample " + k, x.error(2), k == 7 ? 5 : -1);
            CHECK.is("leaves of sample " + k, x.leaves(2), leaves[k]);
        }
        CHECK.is("others stay", x.question(1), "");
    }

    private static void error(String text, int due) {
        Searchcluster x = new Searchcluster();
        Check.pose(x, 1, text);
        CHECK.is("error of " + text, x.error(1), due);
    }

    private static void wholeOnes() {
        for (String text : new String[] {"to", "b*", "\" ba \"", "\" ba ba ba ba ba ba \" ~ 0", "\" ba di \" ~ 9", "year: 0",
            "year: 99 .. 0", "kind: 5", "not ba", "^ 1 ba", "^ 9 ba", "title: ba", "body: kind: 3", "not ^ 2 title: ( ba )",
            "( ( ba ) )", "( ba ) and ( ( di ) or ba ) or ( ba )", "ba and not ba or not ba"}) {
            error(text, -1);
        }
    }

    private static void errors() {
        error("", 0);
        error("and", 0);
        error(")", 0);
        error("5", 0);
        error("..", 0);
        error("not", 1);
        error("not not ba", 1);
        error("^", 1);
        error("^ 0 ba", 1);
        error("^ 10 ba", 1);
        error("^ 3 ^ 3 ba", 2);
        error("^ 3 not ba", 2);
        error("title: ^ 3 ba", 1);
        error("title: not ba", 1);
        error("title: body: ba", 1);
        error("ba ba", 1);
        error("ba )", 1);
        error("ba ~ 1", 1);
        error("ba and", 2);
        error("ba and or", 2);
        error("ba or and", 2);
        error("\"", 1);
        error("\" \"", 1);
        error("\" b* \"", 1);
        error("\" ba", 2);
        error("\" ba and", 2);
        error("\" ba ba ba ba ba ba ba", 7);
        error("\" ba \" ~", 4);
        error("\" ba \" ~ 10", 4);
        error("\" ba \" ~ ba", 4);
        error("\" ba \" ~ 1 ~ 1", 5);
        error("year:", 1);
        error("year: ba", 1);
        error("year: 1 ..", 3);
        error("year: 1 .. ba", 3);
        error("year: 1 .. 2 .. 3", 4);
        error("kind:", 1);
        error("kind: 6", 1);
        error("kind: 5 .. 5", 2);
        error("(", 1);
        error("( )", 1);
        error("( ba", 2);
        error("( ( (", 2);
        error("( ( ba ) ( ba ) )", 4);
        error("( ( ba ) and ( ba and ( ba ) ) )", 8);
        error("( ba ) ) ba", 3);
        error("( ba or", 3);
    }

    private static void leaves() {
        Searchcluster x = Check.settled();
        Check.draft(x, "ba di", "ba ko di ba", 0, 0);
        x.put(0, false);
        Check.draft(x, "", "ko di", 0, 0);
        x.put(1, false);
        x.beat(1);
        Check.pose(x, 0, "title: d* and not ( kind: 3 or \" ba di \" ~ 1 ) or ko");
        CHECK.is("leaves", x.leaves(0), 5);
        // da di do, the phrase, ko: in titles, in bodies, whatever the part looks at
        int[][] due = {{0, 0}, {1, 2}, {0, 0}, {1, 1}, {0, 2}};
        for (int leaf = 0; leaf < 5; leaf++) {
            for (int field = 0; field < 2; field++) {
                CHECK.is("leaf " + leaf + " in " + field, x.leaf(0, leaf, field), due[leaf][field]);
            }
        }
        Check.pose(x, 1, "year: 3");
        CHECK.is("no leaves", x.leaves(1), 0);
        x.fall(2);
        CHECK.is("a shard is not answered", x.leaf(0, 4, 1), -9);
        CHECK.is("leaves are told still", x.leaves(0), 5);
    }
}
