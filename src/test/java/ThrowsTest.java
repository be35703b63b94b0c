import java.lang.reflect.InvocationTargetException;
import java.lang.reflect.Method;
import java.util.ArrayList;
import java.util.Arrays;
import java.util.HashSet;
import java.util.List;
import java.util.Set;

/**
 * Each "Throws" row of the promises, on both sides of its bounds: on a new object, on one that answers all, and on one
 * that REFUSES all as its DOOR is DOWN. And what only asks, that it changes nothing.
 */
public final class ThrowsTest {
    private static final Check CHECK = new Check("ThrowsTest");
    private static final Class<? extends RuntimeException> INDEX = IndexOutOfBoundsException.class;
    private static final Class<? extends RuntimeException> ARGUMENT = IllegalArgumentException.class;
    private static final Class<? extends RuntimeException> STATE = IllegalStateException.class;

    /** What an argument may be at its bounds, what it may not be, and what is thrown for that. */
    private record Kind(Class<? extends RuntimeException> due, List<Object> good, List<Object> bad) {
        boolean isBad(Object value) {
            return bad.contains(value);
        }
    }

    /** A method with its "Throws" rows and the kinds of its arguments. */
    private record Row(int promise, String method, List<String> sentences, List<Kind> kinds) { }

    private static Kind range(Class<? extends RuntimeException> due, int least, int most) {
        List<Object> bad = new ArrayList<>(List.of(Integer.MIN_VALUE, least - 1));
        if (most < Integer.MAX_VALUE) {
            bad.addAll(List.of(most + 1, Integer.MAX_VALUE));
        }
        return new Kind(due, least > most ? List.of() : List.of(least, most), bad);
    }

    private static Kind index(int most) {
        return range(INDEX, 0, most);
    }

    private static Kind argument(int least, int most) {
        return range(ARGUMENT, least, most);
    }

    private static Kind flag(Object... values) {
        return new Kind(ARGUMENT, List.of(values), List.of());
    }

    private static Kind token() {
        return new Kind(ARGUMENT, List.of(-1, 0, 52, 100, 199), List.of(-2, 53, 99, 200, Integer.MIN_VALUE, Integer.MAX_VALUE));
    }

    /** Those that only tell something. */
    private static final Set<String> ASKING = Set.of("ofRequest", "reaches", "ofNode", "ofCopy", "act", "members", "guide",
            "answers", "votes", "document", "copyOf", "common", "question", "error", "leaves", "leaf", "search", "count", "spread",
            "facets", "decades", "rank", "score", "light", "inCopy", "pack", "save", "house");
    private static final Kind FIELD = index(1);
    private static final Kind KEY = index(47);
    private static final Kind NODE = index(4);
    private static final Kind SHARD = index(2);
    private static final Kind QUESTION = index(2);
    private static final Kind WORD_OR_NONE = argument(-1, 29);
    private static final Kind EITHER = flag(true, false);
    private static final String NO_NODE = "Throws `IndexOutOfBoundsException` if there is no such NODE";
    private static final String NO_NODE_OR_SHARD = "Throws `IndexOutOfBoundsException` if there is no such NODE, or SHARD";
    private static final String NO_SHARD_OR_NODE = "Throws `IndexOutOfBoundsException` if there is no such SHARD, or NODE";
    private static final String NO_SHARD = "Throws `IndexOutOfBoundsException` if there is no such SHARD";
    private static final String NO_KEY = "Throws `IndexOutOfBoundsException` if there is no such KEY";
    private static final String NO_FIELD = "Throws `IndexOutOfBoundsException` if there is no such FIELD";
    private static final String NO_REQUEST = "Throws `IndexOutOfBoundsException` if there is no such REQUEST";
    private static final String NO_QUESTION = "Throws `IndexOutOfBoundsException` if there is no such QUESTION";
    private static final String NO_QUESTION_OR_KEY = "Throws `IndexOutOfBoundsException` if there is no such QUESTION, or KEY";

    /** Of objects with so many REQUESTS, and so many TOKENS and LEAVES in each QUESTION. */
    private static List<Row> rows(int requests, int tokens, int leaves) {
        List<Row> all = new ArrayList<>();
        add(all, 2, "write", List.of(NO_FIELD, "Throws `IllegalArgumentException` if one of all four is not NONE to 29"),
                FIELD, WORD_OR_NONE, WORD_OR_NONE, WORD_OR_NONE, WORD_OR_NONE);
        add(all, 4, "facts", List.of("Throws `IllegalArgumentException` if year is not 0 to 99, or kind not 0 to 5"),
                argument(0, 99), argument(0, 5));
        add(all, 6, "put", List.of(NO_KEY), KEY, EITHER);
        add(all, 7, "drop", List.of(NO_KEY), KEY);
        String noValue = "Throws `IllegalArgumentException` if value is not 0 to 99 (a KIND: 0 to 5)";
        add(all, 8, "amend", List.of(NO_KEY, noValue), KEY, flag(true), argument(0, 5));
        add(all, 8, "amend", List.of(NO_KEY, noValue), KEY, flag(false), argument(0, 99));
        add(all, 9, "append", List.of(NO_KEY, "Throws `IllegalArgumentException` if word is not 0 to 29"), KEY,
                argument(0, 29));
        add(all, 10, "again", List.of(NO_REQUEST), index(requests - 1));
        add(all, 11, "ofRequest", List.of(NO_REQUEST, notWhat(5)), index(requests - 1), argument(0, 5));
        for (String method : new String[] {"door", "fall", "rise"}) {
            add(all, 12 + List.of("door", "fall", "rise").indexOf(method), method, List.of(NO_NODE), NODE);
        }
        add(all, 15, "link", List.of(NO_NODE + " (both)", "Throws `IllegalArgumentException` if both are the same"), NODE,
                NODE, EITHER);
        add(all, 16, "join", List.of(NO_SHARD_OR_NODE), SHARD, NODE);
        add(all, 17, "quit", List.of(NO_SHARD_OR_NODE), SHARD, NODE);
        add(all, 18, "beat", List.of("Throws `IllegalArgumentException` if many is not 1 to 10"), argument(1, 10));
        add(all, 19, "settle", List.of("Throws `IllegalArgumentException` if most is not 1 to 30"), argument(1, 30));
        addOfCopies(all);
        addOfQuestions(all, tokens, leaves);
        return all;
    }

    private static void addOfCopies(List<Row> all) {
        add(all, 20, "reaches", List.of(NO_NODE + " (both)"), NODE, NODE);
        add(all, 21, "ofNode", List.of(NO_NODE, notWhat(3)), NODE, argument(0, 3));
        add(all, 22, "ofCopy", List.of(NO_NODE_OR_SHARD, notWhat(10)), NODE, SHARD, argument(0, 10));
        add(all, 23, "act", List.of(NO_NODE_OR_SHARD + ", or place"), NODE, SHARD, index(-1));
        add(all, 24, "members", List.of(NO_NODE_OR_SHARD), NODE, SHARD);
        add(all, 25, "guide", List.of(NO_SHARD), SHARD);
        add(all, 26, "answers", List.of(NO_SHARD), SHARD);
        add(all, 27, "votes", List.of(NO_NODE_OR_SHARD), NODE, SHARD);
        add(all, 29, "document", List.of(NO_KEY), KEY);
        add(all, 30, "copyOf", List.of(NO_NODE + ", or KEY"), NODE, KEY);
        add(all, 32, "common", List.of(NO_FIELD, "Throws `IllegalArgumentException` if most is not 1 to 10"), FIELD,
                argument(1, 10));
        add(all, 49, "room", List.of("Throws `IllegalArgumentException` if many is not 1 to 8"), argument(1, 8));
        add(all, 50, "pack", List.of(NO_NODE), NODE);
        add(all, 51, "save", List.of(NO_NODE), NODE);
        add(all, 52, "house", List.of(notWhat(11)), argument(0, 11));
    }

    private static void addOfQuestions(List<Row> all, int tokens, int leaves) {
        add(all, 33, "ask",
                List.of(NO_QUESTION, "Throws `IllegalArgumentException` if one of all five is neither NONE nor a TOKEN"),
                QUESTION, token(), token(), token(), token(), token());
        add(all, 34, "unask",
                List.of(NO_QUESTION, "Throws `IllegalArgumentException` if many is not 0 to how many there are"), QUESTION,
                argument(0, tokens));
        add(all, 35, "sample", List.of(NO_QUESTION, "Throws `IllegalArgumentException` if k is not 0 to 7"), QUESTION,
                argument(0, 7));
        List<String> plain = List.of("question", "error", "leaves");
        for (String method : plain) {
            add(all, 36 + plain.indexOf(method), method, List.of(NO_QUESTION), QUESTION);
        }
        add(all, 39, "leaf", List.of(NO_QUESTION + ", or FIELD",
                "Throws `IllegalArgumentException` if it has no such LEAF (with an ERROR it has none)"), QUESTION,
                argument(0, leaves - 1), FIELD);
        add(all, 40, "search",
                List.of(NO_QUESTION, "Throws `IllegalArgumentException` if from is below 0, or many not 1 to 10"), QUESTION,
                argument(0, Integer.MAX_VALUE), argument(1, 10));
        List<String> told = List.of("count", "spread", "facets", "decades");
        for (String method : told) {
            add(all, 41 + told.indexOf(method), method, List.of(NO_QUESTION), QUESTION);
        }
        List<String> ofKeys = List.of("rank", "score", "light");
        for (String method : ofKeys) {
            add(all, 45 + ofKeys.indexOf(method), method, List.of(NO_QUESTION_OR_KEY), QUESTION, KEY);
        }
        add(all, 48, "inCopy", List.of(NO_NODE + ", or QUESTION"), NODE, QUESTION);
    }

    private static void add(List<Row> all, int promise, String method, List<String> sentences, Kind... kinds) {
        all.add(new Row(promise, method, sentences, List.of(kinds)));
    }

    private static String notWhat(int most) {
        return "Throws `IllegalArgumentException` if what is not 0 to " + most;
    }

    // ---- what the arguments are

    private static List<Object[]> cases(Row row) {
        List<Object[]> all = new ArrayList<>();
        int size = row.kinds().size();
        Object[] plain = new Object[size];
        for (int i = 0; i < size; i++) {
            Kind kind = row.kinds().get(i);
            plain[i] = kind.good().isEmpty() ? kind.bad().get(2) : kind.good().get(0);
        }
        for (int i = 0; i < size; i++) {
            List<Object> values = new ArrayList<>(row.kinds().get(i).good());
            values.addAll(row.kinds().get(i).bad());
            for (Object value : values) {
                Object[] one = with(plain, i, value);
                all.add(one);
                for (int j = 0; j < i; j++) {
                    for (Object other : row.kinds().get(j).bad()) {
                        all.add(with(one, j, other));
                    }
                    for (Object other : row.kinds().get(j).good()) {
                        all.add(with(one, j, other));
                    }
                }
            }
        }
        return all;
    }

    private static Object[] with(Object[] row, int place, Object value) {
        Object[] other = row.clone();
        other[place] = value;
        return other;
    }

    // ---- what is thrown

    /** Of several exceptions the one that is named first: each method names them in this order. */
    private static Class<? extends RuntimeException> dueOf(Row row, Object[] arguments, Twins.Recipe recipe) {
        if (row.method().equals("act")) {
            return isPlace(arguments, recipe) ? null : INDEX;
        }
        for (Class<? extends RuntimeException> due : List.of(INDEX, ARGUMENT)) {
            for (int i = 0; i < arguments.length; i++) {
                if (row.kinds().get(i).due() == due && row.kinds().get(i).isBad(arguments[i])) {
                    return due;
                }
            }
        }
        return row.method().equals("link") && arguments[0].equals(arguments[1]) ? ARGUMENT : null;
    }

    private static boolean isPlace(Object[] arguments, Twins.Recipe recipe) {
        if (NODE.isBad(arguments[0]) || SHARD.isBad(arguments[1])) {
            return false;
        }
        Searchcluster x = new Searchcluster();
        recipe.make(x);
        int place = (Integer) arguments[2];
        return place >= 0 && place < x.ofCopy((Integer) arguments[0], (Integer) arguments[1], 3);
    }

    private static Object invoke(Method method, Searchcluster x, Object[] arguments) {
        try {
            return method.invoke(x, arguments);
        } catch (InvocationTargetException e) {
            throw (RuntimeException) e.getCause();
        } catch (IllegalAccessException e) {
            throw new AssertionError(e);
        }
    }

    private static Method methodOf(String name) {
        return Arrays.stream(Searchcluster.class.getMethods()).filter(method -> method.getName().equals(name)).findAny()
                .orElseThrow();
    }

    private static void look(String where, List<Row> rows, Twins.Recipe recipe) {
        Twins twins = new Twins(CHECK, recipe);
        for (String name : List.of("draft", "sunk", "documents", "isSound", "digest")) {
            twins.asks(name + " on " + where, x -> invoke(methodOf(name), x, new Object[0]));
        }
        for (Row row : rows) {
            for (String sentence : row.sentences()) {
                CHECK.promise(row.promise(), sentence);
            }
            Method method = methodOf(row.method());
            for (Object[] arguments : cases(row)) {
                Class<? extends RuntimeException> due = dueOf(row, arguments, recipe);
                String what = row.method() + Arrays.toString(arguments) + " on " + where;
                Twins.Call call = x -> invoke(method, x, arguments);
                if (due == null && ASKING.contains(row.method())) {
                    twins.asks(what, call);
                } else if (due == null) {
                    twins.isLet(what, call);
                } else {
                    twins.fails(what, due, call);
                }
            }
        }
    }

    private static void full(Searchcluster x) {
        x.settle(30);
        Check.draft(x, "ba", "di ba", 5, 2);
        x.put(0, false);
        x.put(1, true);
        x.put(2, false);
        x.beat(2);
        x.append(0, 3);
        for (int question = 0; question < 3; question++) {
            x.sample(question, 1);
        }
        x.room(3);
        x.knock();
        x.documents();
    }

    private static void refusing(Searchcluster x) {
        full(x);
        x.fall(0);
        x.documents();
    }

    /** No method that throws may be left out, and those that are named must be all that the document lets them throw. */
    private static void allAreLookedAt() {
        Set<String> looked = new HashSet<>();
        rows(1, 1, 1).forEach(row -> looked.add(row.method()));
        for (Method method : Searchcluster.class.getMethods()) {
            if (method.getDeclaringClass() == Searchcluster.class) {
                CHECK.is("looked at " + method, looked.contains(method.getName()), method.getExceptionTypes().length > 0);
            }
        }
    }

    private static void fullFields() {
        Twins title = new Twins(CHECK, x -> x.write(0, 1, 2, 3, -1));
        CHECK.promise(2, "Throws `IllegalStateException` if the FIELD would have more than it can");
        title.answers("a fourth word", 4, x -> x.write(0, 4, -1, -1, -1));
        title.answers("a fourth word ahead of NONE", 4, x -> x.write(0, 4, -1, 4, 4));
        title.answers("none", 3, x -> x.write(0, -1, 4, 4, 4));
        title.answers("the other field has room", 4, x -> x.write(1, 4, 4, 4, 4));
        title.fails("a fifth word", STATE, x -> x.write(0, 4, 4, -1, -1));
        title.fails("a fifth word, all four at once", STATE, x -> x.write(0, 4, 4, 4, 4));
        Twins body = new Twins(CHECK, x -> {
            for (int i = 0; i < 15; i++) {
                x.write(1, i, -1, -1, -1);
            }
        });
        body.answers("a 16th word", 16, x -> x.write(1, 4, -1, -1, -1));
        body.answers("none", 15, x -> x.write(1, -1, 4, 4, 4));
        body.fails("a 17th word", STATE, x -> x.write(1, 4, 4, -1, -1));
        body.fails("a 19th word", STATE, x -> x.write(1, 4, 4, 4, 4));
        CHECK.section(7, "If several exceptions apply, the one that is named first is thrown.");
        title.fails("no such word ahead of a full field", ARGUMENT, x -> x.write(0, 4, 4, 30, -1));
        title.fails("no such word behind NONE ahead of a full field", ARGUMENT, x -> x.write(0, 4, 4, -1, -2));
        title.fails("no such field ahead of a full one", INDEX, x -> x.write(2, 4, 4, 30, -1));
    }

    private static void fullQuestions() {
        Twins twins = new Twins(CHECK, x -> {
            for (int i = 0; i < 58; i++) {
                x.ask(1, 0, -1, -1, -1, -1);
            }
        });
        CHECK.promise(33, "Throws `IllegalStateException` if it would have more than 60");
        twins.answers("two more", 60, x -> x.ask(1, 1, 2, -1, -1, -1));
        twins.answers("two more ahead of NONE", 60, x -> x.ask(1, 1, 2, -1, 3, 3));
        twins.answers("none more", 58, x -> x.ask(1, -1, 1, 1, 1, 1));
        twins.answers("another question has room", 5, x -> x.ask(0, 1, 1, 1, 1, 1));
        twins.fails("three more", STATE, x -> x.ask(1, 1, 2, 3, -1, -1));
        twins.fails("five more", STATE, x -> x.ask(1, 1, 2, 3, 4, 5));
        CHECK.section(7, "If several exceptions apply, the one that is named first is thrown.");
        twins.fails("no such token ahead of a full question", ARGUMENT, x -> x.ask(1, 1, 2, 3, -1, 53));
        twins.fails("no such question ahead of a full one", INDEX, x -> x.ask(3, 1, 2, 3, 53, -1));
    }

    private static void likeNodes() {
        Twins twins = new Twins(CHECK, ThrowsTest::full);
        CHECK.promise(15, "Throws `IllegalArgumentException` if both are the same");
        twins.fails("the same", ARGUMENT, x -> x.link(3, 3, false));
        twins.fails("the same, that is none", INDEX, x -> x.link(5, 5, false));
        twins.fails("the same, that is none", INDEX, x -> x.link(-1, -1, true));
        twins.answers("others", 1, x -> x.link(3, 4, false));
    }

    private static void leavesWithAnError() {
        Twins twins = new Twins(CHECK, x -> {
            full(x);
            x.sample(1, 7);
        });
        CHECK.promise(39, "Throws `IllegalArgumentException` if it has no such LEAF (with an ERROR it has none)");
        twins.fails("a leaf ahead of the error", ARGUMENT, x -> x.leaf(1, 0, 0));
        twins.answers("the last leaf", 3, x -> x.leaf(0, 1, 1));
        twins.fails("one more", ARGUMENT, x -> x.leaf(2, 2, 0));
    }

    public static void main(String[] args) {
        CHECK.section(7, "A method that throws an exception changes nothing.");
        allAreLookedAt();
        look("a new object", rows(0, 0, 0), x -> { });
        look("one that answers", rows(4, 3, 2), ThrowsTest::full);
        CHECK.section(7, "Exceptions go ahead of REFUSED.");
        look("one that refuses", rows(4, 3, 2), ThrowsTest::refusing);
        fullFields();
        fullQuestions();
        likeNodes();
        leavesWithAnError();
        CHECK.end();
    }
}
