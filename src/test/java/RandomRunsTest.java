import java.lang.reflect.InvocationTargetException;
import java.lang.reflect.Method;
import java.util.ArrayList;
import java.util.Arrays;
import java.util.HashMap;
import java.util.List;
import java.util.Map;
import java.util.Random;

/**
 * Random runs of calls, of at most 512 each, on a Searchcluster and on the Model: all answers and exceptions must be
 * alike. Arguments: how many runs, and the seed of the first one (both may be left out).
 */
public final class RandomRunsTest {
    /** A method, how often it comes, and what its arguments are. */
    private static final String[] TABLE = {
        "write 30 field word word word word", "erase 6", "facts 12 year kind", "draft 2", "put 40 key bool",
        "drop 10 key", "amend 12 key bool value", "append 20 key plainWord", "again 12 request", "ofRequest 10 request what5",
        "door 12 node", "fall 12 node", "rise 14 node", "link 16 node node bool", "join 14 shard node",
        "quit 12 shard node", "beat 60 beats", "settle 12 most", "reaches 3 node node", "ofNode 4 node what3",
        "ofCopy 12 node shard what10", "act 6 node shard place", "members 4 node shard", "guide 4 shard",
        "answers 4 shard", "votes 10 node shard", "sunk 3", "document 8 key", "copyOf 6 node key", "documents 3",
        "common 5 field ten", "ask 20 question token token token token token", "unask 6 question many",
        "sample 12 question sample", "question 3 question", "error 4 question", "leaves 3 question",
        "leaf 4 question leaf field", "search 16 question from ten", "count 4 question", "spread 4 question",
        "facets 3 question", "decades 3 question", "rank 4 question key", "score 5 question key",
        "light 8 question key", "inCopy 5 node question", "room 2 eight", "pack 2 node", "save 2 node",
        "house 8 what11", "knock 2", "isSound 2", "digest 3"
    };

    private final Random random;
    private final Map<String, Method> onCluster = methodsOf(Searchcluster.class);
    private final Map<String, Method> onModel = methodsOf(Model.class);
    /** Fewer KEYS and WORDS make more of the questions find something. */
    private final int keys;
    private final int words;
    /** How many calls in a thousand have an argument that is out of its range. */
    private final int wrong;
    /** NODES that are let fall or be cut at a time are fewer in quiet runs. */
    private final boolean isQuiet;
    private Model model = new Model();
    /** TOKENS of a QUESTION, and whole calls, that are to come. */
    private final List<Integer> planned = new ArrayList<>();
    private final List<Object[]> waiting = new ArrayList<>();

    private RandomRunsTest(long seed) {
        random = new Random(seed);
        keys = List.of(3, 8, 16, 48).get(random.nextInt(4));
        words = List.of(3, 6, 12, 30).get(random.nextInt(4));
        wrong = List.of(0, 10, 40).get(random.nextInt(3));
        isQuiet = random.nextInt(3) > 0;
    }

    private static Map<String, Method> methodsOf(Class<?> from) {
        Map<String, Method> found = new HashMap<>();
        for (Method method : from.getMethods()) {
            if (method.getDeclaringClass() == from) {
                found.put(method.getName(), method);
            }
        }
        return found;
    }

    private int upTo(int most) {
        return random.nextInt(most + 1);
    }

    private int wordOrNone() {
        return random.nextInt(6) == 0 ? -1 : random.nextInt(words);
    }

    /** A token of a whole question that is planned ahead, now and then of none. */
    private int token() {
        if (random.nextInt(40) == 0) {
            return random.nextInt(10) == 0 ? -1 : List.of(upTo(52), 100 + upTo(99)).get(random.nextInt(2));
        }
        if (planned.isEmpty()) {
            planOr(0);
            planned.add(random.nextInt(3) == 0 ? -1 : 42 + random.nextInt(2));
        }
        return planned.remove(0);
    }

    private void planOr(int depth) {
        planUnit(depth);
        while (random.nextInt(3) == 0) {
            planned.add(42 + random.nextInt(2));
            planUnit(depth);
        }
    }

    private void planUnit(int depth) {
        if (random.nextInt(6) == 0) {
            planned.add(44);
        }
        if (random.nextInt(6) == 0) {
            planned.addAll(List.of(51, 101 + random.nextInt(9)));
        }
        if (random.nextInt(4) == 0) {
            planned.add(46 + random.nextInt(2));
        }
        int sort = random.nextInt(depth < 2 ? 10 : 8);
        if (sort < 3) {
            planned.add(random.nextInt(words));
        } else if (sort < 4) {
            planned.add(30 + random.nextInt((words + 2) / 3));
        } else if (sort < 6) {
            planned.add(45);
            for (int i = random.nextInt(3); i >= 0; i--) {
                planned.add(random.nextInt(words));
            }
            planned.add(45);
            if (random.nextBoolean()) {
                planned.addAll(List.of(52, 100 + random.nextInt(10)));
            }
        } else if (sort < 7) {
            planned.addAll(List.of(48, 100 + random.nextInt(60)));
            if (random.nextBoolean()) {
                planned.addAll(List.of(50, 130 + random.nextInt(70)));
            }
        } else if (sort < 8) {
            planned.addAll(List.of(49, 100 + random.nextInt(6)));
        } else {
            planned.add(40);
            planOr(depth + 1);
            planned.add(41);
        }
    }

    private int numberFor(String sort) {
        if (random.nextInt(1000) < wrong) {
            return List.of(-1, -2, 5, 12, 30, 48, 60, 100, 200, Integer.MAX_VALUE, Integer.MIN_VALUE)
                    .get(random.nextInt(11));
        }
        switch (sort) {
            case "field": return upTo(1);
            case "word": return wordOrNone();
            case "plainWord": return random.nextInt(words);
            case "year": return upTo(99);
            case "kind": return upTo(5);
            case "value": return random.nextInt(4) == 0 ? upTo(99) : upTo(5);
            case "key": return random.nextInt(keys);
            case "request": return upTo(Math.max(0, model.house(0) - 1));
            case "node": return upTo(4);
            case "shard": return upTo(2);
            case "beats": return random.nextInt(3) == 0 ? 1 + upTo(9) : 1 + upTo(2);
            case "most": return 1 + upTo(29);
            case "ten": return 1 + upTo(9);
            case "eight": return 1 + upTo(7);
            case "question": return upTo(2);
            case "token": return token();
            case "many": return random.nextInt(3) == 0 ? upTo(60) : upTo(6);
            case "sample": return upTo(7);
            case "leaf": return upTo(4);
            case "from": return random.nextInt(3) == 0 ? upTo(12) : 0;
            case "place": return random.nextInt(3) == 0 ? upTo(60) : upTo(8);
            case "what3": return upTo(3);
            case "what5": return upTo(5);
            case "what10": return upTo(10);
            default: return upTo(11);
        }
    }

    private Object[] argumentsFor(String[] row) {
        Object[] arguments = new Object[row.length - 2];
        for (int i = 0; i < arguments.length; i++) {
            arguments[i] = row[i + 2].equals("bool") ? (Object) random.nextBoolean() : numberFor(row[i + 2]);
        }
        if (row[0].equals("link") && random.nextInt(3) > 0) {
            arguments[2] = true;
        }
        return arguments;
    }

    private static Object answerOf(Method method, Object target, Object[] arguments) throws IllegalAccessException {
        try {
            return method.invoke(target, arguments);
        } catch (InvocationTargetException e) {
            return "throws." + e.getCause().getClass().getSimpleName();
        }
    }

    private boolean comes(String method) {
        boolean isTrouble = method.equals("fall") || method.equals("link") || method.equals("door");
        return !isQuiet || !isTrouble || random.nextInt(12) == 0;
    }

    private void later(Object... call) {
        waiting.add(call);
    }

    private void repairAll() {
        for (int node = 0; node < 5; node++) {
            if (model.ofNode(node, 0) == 0) {
                later("rise", node);
            }
            for (int other = 0; other < node; other++) {
                if (random.nextInt(8) > 0 && model.ofNode(node, 2) < 4) {
                    later("link", node, other, true);
                }
            }
        }
        later("settle", 30);
    }

    private void poseQuestion() {
        int question = upTo(2);
        later("unask", question, model.ask(question, -1, -1, -1, -1, -1));
        List<Integer> tokens = new ArrayList<>();
        planned.clear();
        planOr(0);
        tokens.addAll(planned);
        planned.clear();
        for (int from = 0; from < Math.min(60, tokens.size()); from += 5) {
            Object[] call = {"ask", question, -1, -1, -1, -1, -1};
            for (int i = from; i < Math.min(Math.min(60, tokens.size()), from + 5); i++) {
                call[2 + i - from] = tokens.get(i);
            }
            waiting.add(call);
        }
        later("search", question, 0, 10);
        later("light", question, random.nextInt(keys));
        later("score", question, random.nextInt(keys));
        later("rank", question, random.nextInt(keys));
        later("leaf", question, upTo(3), upTo(1));
        later("inCopy", upTo(4), question);
        later(List.of("spread", "facets", "decades", "count", "leaves").get(upTo(4)), question);
    }

    /** Phrases that are near each other come about in long DOCUMENTS of few WORDS. */
    private void putDocument() {
        if (random.nextInt(3) > 0) {
            later("erase");
        }
        later("facts", upTo(99), upTo(5));
        later("write", 0, wordOrNone(), wordOrNone(), -1, -1);
        for (int i = random.nextInt(4); i >= 0; i--) {
            later("write", 1, wordOrNone(), wordOrNone(), wordOrNone(), wordOrNone());
        }
        for (int i = random.nextInt(4); i >= 0; i--) {
            later("put", random.nextInt(keys), random.nextInt(4) == 0);
        }
    }

    private Object[] nextCall(int sum) {
        if (waiting.isEmpty() && random.nextInt(isQuiet ? 12 : 60) == 0) {
            repairAll();
        } else if (waiting.isEmpty() && random.nextInt(25) == 0) {
            poseQuestion();
        } else if (waiting.isEmpty() && random.nextInt(25) == 0) {
            putDocument();
        }
        if (!waiting.isEmpty()) {
            return waiting.remove(0);
        }
        int pick = random.nextInt(sum);
        String[] row = null;
        for (int j = 0; pick >= 0; j++) {
            row = TABLE[j].split(" ");
            pick -= Integer.parseInt(row[1]);
        }
        if (!comes(row[0])) {
            row = new String[] {"settle", "0", "most"};
        }
        Object[] arguments = argumentsFor(row);
        Object[] call = new Object[arguments.length + 1];
        call[0] = row[0];
        System.arraycopy(arguments, 0, call, 1, arguments.length);
        return call;
    }

    /** False if an answer is not as due. */
    private boolean run(long seed) throws IllegalAccessException {
        Searchcluster cluster = new Searchcluster();
        model = new Model();
        int sum = Arrays.stream(TABLE).mapToInt(row -> Integer.parseInt(row.split(" ")[1])).sum();
        List<String> calls = new ArrayList<>();
        later("settle", 30);
        for (int i = 0; i < 512; i++) {
            Object[] call = i == 511 ? new Object[] {"digest"} : nextCall(sum);
            String name = (String) call[0];
            Object[] arguments = Arrays.copyOfRange(call, 1, call.length);
            Object due = answerOf(onModel.get(name), model, arguments);
            Object got = answerOf(onCluster.get(name), cluster, arguments);
            calls.add(name + Arrays.toString(arguments) + " " + got);
            if (!due.equals(got)) {
                calls.forEach(System.out::println);
                System.out.println("seed " + seed + ": the last call is due " + due);
                return false;
            }
        }
        return true;
    }

    public static void main(String[] args) throws IllegalAccessException {
        int runs = args.length > 0 ? Integer.parseInt(args[0]) : 150;
        long seed = args.length > 1 ? Long.parseLong(args[1]) : 1;
        for (int i = 0; i < runs; i++) {
            if (!new RandomRunsTest(seed + i).run(seed + i)) {
                System.exit(1);
            }
        }
        System.out.println("RandomRunsTest: " + runs + " runs of 512 calls are as due");
    }
}
