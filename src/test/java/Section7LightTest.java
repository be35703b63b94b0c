/** Section 7 of the document, sentence by sentence: what is lit, and the samples. */
public final class Section7LightTest {
    private static final Check CHECK = new Check("Section7LightTest");

    public static void main(String[] args) {
        words();
        fields();
        denied();
        andsThatDoNotMatch();
        phrases();
        firstPlaceBehind();
        texts();
        samples();
        CHECK.end();
    }

    private static Searchcluster one(String title, String body) {
        Searchcluster x = Check.settled();
        Check.draft(x, title, body, 30, 1);
        x.put(0, false);
        x.beat(1);
        return x;
    }

    private static void lit(Searchcluster x, String text, String due) {
        Check.pose(x, 0, text);
        CHECK.is(text, x.light(0, 0), due);
    }

    private static void words() {
        CHECK.section(7, "LIT is a WORD in a place of a FIELD of a DOCUMENT, if a LEAF that is not DENIED, and whose PART looks "
                + "at that FIELD, is that WORD");
        Searchcluster x = one("ba di ba fo", "di ko ba");
        lit(x, "ba", "[ba] di [ba] fo/di ko [ba]");
        lit(x, "di", "ba [di] ba fo/[di] ko ba");
        lit(x, "ba or di", "[ba] [di] [ba] fo/[di] ko [ba]");
        lit(x, "ba and di and fo", "[ba] [di] [ba] [fo]/[di] ko [ba]");
        lit(x, "ba or la", "[ba] di [ba] fo/di ko [ba]");
        lit(x, "k*", "ba di ba fo/di [ko] ba");
        lit(x, "f* or b*", "[ba] di [ba] [fo]/di ko [ba]");
        lit(x, "year: 30", "ba di ba fo/di ko ba");
        lit(x, "kind: 1 or to", "ba di ba fo/di ko ba");
        lit(x, "ba or fo and la", "[ba] di [ba] [fo]/di ko [ba]");
    }

    private static void fields() {
        CHECK.section(7, "and whose PART looks at that FIELD");
        Searchcluster x = one("ba di", "ba di");
        lit(x, "title: ba", "[ba] di/ba di");
        lit(x, "body: ba", "ba di/[ba] di");
        lit(x, "title: ba or body: di", "[ba] di/ba [di]");
        lit(x, "title: ( ba or body: di )", "[ba] di/ba [di]");
        lit(x, "body: \" ba di \"", "ba di/[ba] [di]");
        lit(x, "title: b* or body: d*", "[ba] di/ba [di]");
        lit(x, "title: \" ba di \" or body: di", "[ba] [di]/ba [di]");
    }

    private static void denied() {
        CHECK.section(7, "a LEAF that is not DENIED");
        Searchcluster x = one("ba di", "fo");
        lit(x, "not ko", "ba di/fo");
        lit(x, "ba and not ( ko or not di )", "[ba] di/fo");
        lit(x, "not ( not ( ba ) )", "ba di/fo");
        lit(x, "not ( not \" ba di \" )", "ba di/fo");
        lit(x, "not ( not b* ) and di", "ba [di]/fo");
        lit(x, "not ( not ba ) and ba", "[ba] di/fo");
    }

    /** Nothing there asks whether the AND (or the bracket) matches in which the LEAF stands. */
    private static void andsThatDoNotMatch() {
        CHECK.section(7, "LIT is a WORD in a place of a FIELD of a DOCUMENT, if a LEAF that is not DENIED, and whose PART looks at "
                + "that FIELD, is that WORD, or is a PHRASE that is counted in that place, or in one ahead, with this WORD there");
        Searchcluster x = one("ba di", "fo di ko");
        lit(x, "ba or di and la", "[ba] [di]/fo [di] ko");
        lit(x, "ba or la and di", "[ba] [di]/fo [di] ko");
        lit(x, "ba or ( di and la )", "[ba] [di]/fo [di] ko");
        lit(x, "ba or ( la and ( di or lo ) )", "[ba] [di]/fo [di] ko");
        lit(x, "ba or di and year: 31", "[ba] [di]/fo [di] ko");
        lit(x, "ba or kind: 2 and title: d*", "[ba] [di]/fo di ko");
        lit(x, "ba or di and not ko", "[ba] [di]/fo [di] ko");
        lit(x, "ba or fo and title: ko", "[ba] di/[fo] di ko");
        lit(x, "ba or \" fo ko \" ~ 1 and la", "[ba] di/[fo] di [ko]");
        lit(x, "ba or la and body: \" di ko \"", "[ba] di/fo [di] [ko]");
        lit(x, "ba or \" fo ko \" and la", "[ba] di/fo di ko");
        lit(x, "year: 30 or not ba and di", "ba [di]/fo [di] ko");
    }

    private static void phrases() {
        CHECK.section(7, "or is a PHRASE that is counted in that place, or in one ahead");
        Searchcluster x = one("ba ba di", "di ba di ba fo di");
        lit(x, "\" ba di \"", "ba [ba] [di]/di [ba] [di] ba fo di");
        lit(x, "\" ba di \" ~ 1", "[ba] [ba] [di]/di [ba] [di] [ba] fo [di]");
        lit(x, "\" ba \"", "[ba] [ba] di/di [ba] di [ba] fo di");
        lit(x, "\" di ba fo \"", "ba ba di/di ba [di] [ba] [fo] di");
        lit(x, "\" di ba fo \" ~ 2", "ba ba di/[di] [ba] [di] [ba] [fo] di");
        lit(x, "\" fo ba \" or fo", "ba ba di/di ba di ba [fo] di");
        lit(x, "\" ba ba di \"", "[ba] [ba] [di]/di ba di ba fo di");
    }

    private static void firstPlaceBehind() {
        CHECK.section(7, "(from a place in which it is counted on, WORD by WORD the first place behind)");
        Searchcluster x = one("", "ba fo di fo di ko");
        lit(x, "\" ba di ko \" ~ 3", "/[ba] fo [di] fo di [ko]");
        lit(x, "\" ba fo di ko \" ~ 2", "/[ba] [fo] [di] fo di [ko]");
        lit(x, "\" ba di di \" ~ 2", "/[ba] fo [di] fo [di] ko");
        lit(x, "\" fo di \" ~ 9", "/ba [fo] [di] [fo] [di] ko");
        lit(x, "\" ba ko \" ~ 4", "/[ba] fo di fo di [ko]");
        x = one("", "ba ba di di");
        lit(x, "\" ba di \" ~ 1", "/[ba] [ba] [di] di");
        lit(x, "\" ba ba di \"", "/[ba] [ba] [di] di");
        lit(x, "\" ba di di \"", "/ba [ba] [di] [di]");
        x = one("", "ba ba ba ba ba ba ba ba ba ba ba ba ba ba ba to");
        lit(x, "\" ba to \"", "/ba ba ba ba ba ba ba ba ba ba ba ba ba ba [ba] [to]");
        lit(x, "to", "/ba ba ba ba ba ba ba ba ba ba ba ba ba ba ba [to]");
    }

    private static void texts() {
        CHECK.promise(47, "Returns TITLE, \"/\" and BODY of the DOCUMENT with it (WORDS with \" \" between), each WORD that is LIT "
                + "(section 7) in \"[\" and \"]\"; \"-\" if it is no HIT; \"!\" if it is REFUSED.");
        Searchcluster x = one("", "");
        lit(x, "year: 30", "/");
        lit(x, "ba", "-");
        CHECK.is("no document", x.light(0, 3), "-");
        lit(x, "ba or", "!");
        x = one("to", "");
        lit(x, "to", "[to]/");
        lit(x, "not ba", "to/");
        x = one("", "to");
        lit(x, "to", "/[to]");
        x.fall(0);
        lit(x, "to", "!");
    }

    private static void samples() {
        CHECK.section(7, "SAMPLES: 0: ba. 1: ba and di. 2: \" ba di \" ~ 2 or ^ 3 title: fo. 3: ( ba or d* ) and not kind: 2. 4: "
                + "year: 10 .. 50 and not title: ( ba or bi ). 5: ^ 2 body: ( ba and ( not di or ^ 4 \" ko la \" ) ). 6: k* and "
                + "year: 7 or \" mi mi mi \". 7: ba and ( di or.");
        String[] due = {"ba", "ba and di", "\" ba di \" ~ 2 or ^ 3 title: fo", "( ba or d* ) and not kind: 2",
            "year: 10 .. 50 and not title: ( ba or bi )", "^ 2 body: ( ba and ( not di or ^ 4 \" ko la \" ) )",
            "k* and year: 7 or \" mi mi mi \"", "ba and ( di or"};
        int[] sizes = {1, 3, 11, 9, 12, 18, 10, 5};
        for (int question = 0; question < 3; question++) {
            for (int k = 0; k < 8; k++) {
                Searchcluster x = new Searchcluster();
                x.ask(question, 1, 1, 1, 1, 1);
                CHECK.is("tokens of " + k, x.sample(question, k), sizes[k]);
                CHECK.is("sample " + k, x.question(question), due[k]);
                CHECK.is("error of " + k, x.error(question), k == 7 ? 5 : -1);
                CHECK.is("others", x.question((question + 1) % 3) + x.question((question + 2) % 3), "");
            }
        }
        CHECK.promise(35, "Throws `IllegalArgumentException` if k is not 0 to 7");
        Twins twins = new Twins(CHECK, x -> x.sample(1, 2));
        twins.fails("sample -1", IllegalArgumentException.class, x -> x.sample(1, -1));
        twins.fails("sample 8", IllegalArgumentException.class, x -> x.sample(1, 8));
    }
}
