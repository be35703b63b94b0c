import java.lang.reflect.Field;
import java.lang.reflect.InvocationTargetException;
import java.lang.reflect.Method;
import java.util.Arrays;
import java.util.List;

/**
 * Promise 54. No run of calls makes isSound() tell false; so what it looks at is spoilt from within, one thing at a time,
 * in an object that is sound. It is tied to how the state is held: to be written anew if that changes.
 */
public final class SoundnessTest {
    private static final Check CHECK = new Check("SoundnessTest");

    private interface Spoiling {
        void run(Searchcluster x) throws ReflectiveOperationException;
    }

    public static void main(String[] args) throws ReflectiveOperationException {
        likePlaces();
        knownActs();
        likeTerms();
        canAnswer();
        documents();
        hits();
        digest();
        CHECK.end();
    }

    // ---- from within

    private static Object get(Object from, String name) throws ReflectiveOperationException {
        Field field = from.getClass().getDeclaredField(name);
        field.setAccessible(true);
        return field.get(from);
    }

    private static void set(Object in, String name, Object value) throws ReflectiveOperationException {
        Field field = in.getClass().getDeclaredField(name);
        field.setAccessible(true);
        field.set(in, value);
    }

    private static Object call(Object on, String name, Object... arguments) throws ReflectiveOperationException {
        for (Method method : on.getClass().getDeclaredMethods()) {
            if (method.getName().equals(name) && method.getParameterCount() == arguments.length) {
                method.setAccessible(true);
                return method.invoke(on, arguments);
            }
        }
        throw new NoSuchMethodException(name);
    }

    private static Object copyOf(Searchcluster x, int node, int shard) throws ReflectiveOperationException {
        Object[] shards = (Object[]) get(x, "shards");
        return ((Object[]) get(shards[shard], "copies"))[node];
    }

    @SuppressWarnings("unchecked")
    private static List<Object> logOf(Searchcluster x, int node, int shard) throws ReflectiveOperationException {
        return (List<Object>) get(copyOf(x, node, shard), "log");
    }

    /** An ACT like that one, but of another TERM, sort and number. */
    private static Object act(Object like, int term, int sort, int number) throws ReflectiveOperationException {
        var made = Arrays.stream(like.getClass().getDeclaredConstructors()).findFirst().orElseThrow();
        made.setAccessible(true);
        try {
            return made.newInstance(term, sort, number, null);
        } catch (InvocationTargetException e) {
            throw new AssertionError(e.getCause());
        }
    }

    /** In shard 0 the nodes 0, 1 and 2 have "1:n 1:r0 1:r1 1:r2 1:r3", all of it known; 0 can answer. */
    private static Searchcluster sound() {
        Searchcluster x = Check.settled();
        Check.draft(x, "ba", "di ko", 20, 2);
        x.put(0, false);
        x.put(3, false);
        Check.draft(x, "fo", "ba ba", 30, 3);
        x.put(6, false);
        x.append(0, 0);
        x.put(1, false);
        x.beat(3);
        x.sample(0, 0);
        return x;
    }

    private static void look(String what, boolean due, Spoiling spoiling) throws ReflectiveOperationException {
        Searchcluster x = sound();
        CHECK.is("sound ahead of it", x.isSound(), true);
        CHECK.is("log", Check.log(x, 0, 0), "1:n 1:r0 1:r1 1:r2 1:r3");
        spoiling.run(x);
        CHECK.is(what, x.isSound(), due);
    }

    // ---- what is so

    private static void likePlaces() throws ReflectiveOperationException {
        CHECK.promise(54, "in each SHARD, of two LOGS with an ACT of the same TERM in the same place, all ahead of it is the same");
        for (int i = 0; i < 4; i++) {
            int place = i;
            look("another sort in the place " + place + " of one that knows nothing", false, x -> {
                set(copyOf(x, 2, 0), "known", 0);
                call(get(copyOf(x, 2, 0), "shelf"), "clear");
                logOf(x, 2, 0).set(place, act(logOf(x, 2, 0).get(place), 1, 2, 1));
            });
        }
        look("another term ahead of a like one", false, x -> {
            set(copyOf(x, 2, 0), "known", 0);
            call(get(copyOf(x, 2, 0), "shelf"), "clear");
            logOf(x, 2, 0).set(0, act(logOf(x, 2, 0).get(0), 0, 0, -1));
        });
        look("another number in a place", false, x -> {
            logOf(x, 2, 0).add(act(logOf(x, 2, 0).get(0), 1, 2, 3));
            logOf(x, 2, 0).add(logOf(x, 2, 0).get(0));
            logOf(x, 1, 0).add(act(logOf(x, 1, 0).get(0), 1, 2, 4));
            logOf(x, 1, 0).add(logOf(x, 1, 0).get(0));
        });
        look("other acts behind the last place of a like term", true, x -> {
            logOf(x, 2, 0).add(act(logOf(x, 2, 0).get(0), 2, 2, 3));
            logOf(x, 1, 0).add(act(logOf(x, 1, 0).get(0), 3, 2, 4));
        });
        look("two others behind the last place of a like term", true, x -> {
            for (int i = 0; i < 2; i++) {
                logOf(x, 2, 0).add(act(logOf(x, 2, 0).get(0), 2, 2, 3));
                logOf(x, 1, 0).add(act(logOf(x, 1, 0).get(0), 3, 2, 4));
            }
        });
        look("another shard", false, x -> {
            set(copyOf(x, 1, 1), "known", 0);
            call(get(copyOf(x, 1, 1), "shelf"), "clear");
            logOf(x, 1, 1).set(0, act(logOf(x, 1, 1).get(0), 1, 2, 4));
        });
    }

    private static void knownActs() throws ReflectiveOperationException {
        CHECK.promise(54, "of two COPIES the ACTS that are KNOWN to both are the same");
        look("other acts, known to both, in the last place", false, x -> {
            for (int node = 0; node < 3; node++) {
                logOf(x, node, 0).add(act(logOf(x, node, 0).get(0), 1 + node, 2, node));
                set(copyOf(x, node, 0), "known", 6);
                set(copyOf(x, node, 0), "leads", false);
            }
        });
        look("other acts, known to one of them", true, x -> {
            for (int node = 0; node < 3; node++) {
                logOf(x, node, 0).add(act(logOf(x, node, 0).get(0), 1 + node, 2, node));
            }
            set(copyOf(x, 1, 0), "known", 6);
            set(copyOf(x, 0, 0), "leads", false);
        });
    }

    private static void likeTerms() throws ReflectiveOperationException {
        CHECK.promise(54, "no two NODES that LEAD it have the same TERM");
        look("two that lead with a like term", false, x -> set(copyOf(x, 1, 0), "leads", true));
        look("two that lead with other terms", true, x -> {
            set(copyOf(x, 1, 0), "leads", true);
            set(copyOf(x, 1, 0), "term", 2);
        });
        look("one of no member", false, x -> {
            set(copyOf(x, 4, 0), "leads", true);
            set(copyOf(x, 4, 0), "term", 1);
        });
        look("of another shard", true, x -> {
            set(copyOf(x, 4, 1), "leads", true);
            set(copyOf(x, 4, 1), "term", 7);
        });
    }

    private static void canAnswer() throws ReflectiveOperationException {
        CHECK.promise(54, "each NODE that CAN ANSWER has all ACTS that are KNOWN to another one");
        look("one knows more than the leader has", false, x -> {
            logOf(x, 2, 0).add(act(logOf(x, 2, 0).get(0), 1, 0, -1));
            set(copyOf(x, 2, 0), "known", 6);
        });
        look("one has more than the leader has", true, x -> logOf(x, 2, 0).add(act(logOf(x, 2, 0).get(0), 1, 0, -1)));
        look("one knows more than a leader has that cannot answer", true, x -> {
            logOf(x, 2, 0).add(act(logOf(x, 2, 0).get(0), 1, 0, -1));
            set(copyOf(x, 2, 0), "known", 6);
            set(copyOf(x, 0, 0), "leads", false);
        });
        for (int i = 0; i < 2; i++) {
            int other = i == 0 ? 0 : 2;
            Searchcluster led = sound();
            led.fall(0);
            led.door(1);
            led.settle(30);
            led.rise(0);
            led.beat(2);
            logOf(led, other, 0).add(act(logOf(led, other, 0).get(0), 2, 0, -1));
            CHECK.is("one has more than another leader has", led.answers(0) + " " + led.isSound(), "1 true");
            set(copyOf(led, other, 0), "known", 7);
            CHECK.is("one knows more than another leader has", led.answers(0) + " " + led.isSound(), "1 false");
        }
        look("one knows another act than the leader has, which it does not know", false, x -> {
            logOf(x, 0, 0).add(act(logOf(x, 0, 0).get(0), 1, 0, -1));
            logOf(x, 1, 0).add(act(logOf(x, 1, 0).get(0), 2, 2, 3));
            set(copyOf(x, 1, 0), "known", 6);
        });
    }

    private static Object document(Searchcluster x, int node, int key) throws ReflectiveOperationException {
        return ((Object[]) get(get(copyOf(x, node, key % 3), "shelf"), "docs"))[key / 3];
    }

    private static void documents() throws ReflectiveOperationException {
        CHECK.promise(54, "each index, asked for each KEY, WORD, YEAR and KIND, tells what the KNOWN ACTS of its COPY, done anew from "
                + "the beginning, make");
        for (int i = 0; i < 3; i++) {
            int node = i;
            look("one that is gone from " + node, false, x -> set(document(x, node, 0), "isThere", false));
            look("one that none made in " + node, false, x -> set(document(x, node, 45), "isThere", true));
            look("another year in " + node, false, x -> set(document(x, node, 3), "year", 21));
            look("another kind in " + node, false, x -> set(document(x, node, 3), "kind", 1));
            look("a title that is shorter in " + node, false, x -> set(document(x, node, 6), "titleSize", 0));
            look("a body that is longer in " + node, false, x -> set(document(x, node, 6), "bodySize", 3));
            look("another word of a title in " + node, false, x -> ((int[]) get(document(x, node, 3), "words"))[0] = 7);
            look("another word of a body in " + node, false, x -> ((int[]) get(document(x, node, 6), "words"))[5] = 7);
            look("a word in a place that is empty in " + node, true, x -> ((int[]) get(document(x, node, 6), "words"))[6] = 7);
            look("fewer that are known to " + node, false, x -> set(copyOf(x, node, 0), "known", 2));
        }
        look("of another shard", false, x -> set(document(x, 2, 1), "year", 21));
        Searchcluster x = sound();
        x.drop(0);
        x.put(9, false);
        CHECK.is("acts that are not known are no matter", x.isSound(), true);
        x.beat(1);
        CHECK.is("nor are those that others do not know", x.isSound() + " " + x.ofCopy(0, 0, 7) + " " + x.ofCopy(1, 0, 7), "true 3 3");
    }

    /** What was found is spoilt, and then looked at by itself: isSound() finds it anew. */
    private static void spoilHits(String how, boolean due, String question, Spoiling spoiling) throws ReflectiveOperationException {
        Searchcluster x = sound();
        Check.pose(x, 0, question);
        x.count(0);
        Object finder = get(x, "finder");
        Object posed = ((Object[]) get(x, "questions"))[0];
        CHECK.is("as found", call(finder, "holds", posed), true);
        spoiling.run(x);
        CHECK.is(how, call(finder, "holds", posed), due);
    }

    private static int[] hitsOf(Searchcluster x) throws ReflectiveOperationException {
        return (int[]) get(get(x, "finder"), "hits");
    }

    private static void setHits(Searchcluster x, int... keys) throws ReflectiveOperationException {
        System.arraycopy(keys, 0, hitsOf(x), 0, keys.length);
        set(get(x, "finder"), "hitCount", keys.length);
    }

    private static void hits() throws ReflectiveOperationException {
        CHECK.promise(54, "each QUESTION that is not REFUSED has the HITS, in their order, that going through all these DOCUMENTS "
                + "finds");
        Searchcluster x = sound();
        CHECK.is("hits", x.search(0, 0, 10), "0:95/48 3:5/3 1:5/8 6:5/8");
        spoilHits("as they are", true, "ba", y -> setHits(y, hitsOf(y)[0], hitsOf(y)[1], hitsOf(y)[2], hitsOf(y)[3]));
        spoilHits("in another order", false, "ba", y -> setHits(y, hitsOf(y)[3], hitsOf(y)[1], hitsOf(y)[2], hitsOf(y)[0]));
        spoilHits("one too few", false, "ba", y -> setHits(y, hitsOf(y)[0], hitsOf(y)[1], hitsOf(y)[2]));
        spoilHits("one too many", false, "ba", y -> setHits(y, hitsOf(y)[0], hitsOf(y)[1], hitsOf(y)[2], hitsOf(y)[3], 9));
        spoilHits("like scores in another order", false, "year: 0 .. 99", y -> setHits(y, 1, 0, 3, 6));
        spoilHits("twice the same", false, "year: 0 .. 99", y -> setHits(y, 0, 1, 3, 3, 6));
        spoilHits("the last one is too few", false, "year: 0 .. 99", y -> setHits(y, 0, 1, 3));
        spoilHits("the first one is too few", false, "year: 0 .. 99", y -> setHits(y, 1, 3, 6));
        for (int question = 0; question < 3; question++) {
            Searchcluster y = sound();
            y.unask(0, 1);
            Check.pose(y, question, "ba");
            CHECK.is("sound", y.isSound(), true);
            // Two that share a score: as 6 is weighed, that of 0 is spoilt, which stands first by then.
            Object[] scores = (Object[]) get(get(y, "finder"), "scores");
            scores[0] = scores[6];
            CHECK.is("found in a wrong order, question " + question, y.isSound(), false);
        }
        x.sample(1, 7);
        CHECK.is("a question that is refused is no matter", x.isSound(), true);
        x.fall(3);
        CHECK.is("nor is a shard that is not answered", x.isSound(), true);
    }

    private static void digest() throws ReflectiveOperationException {
        CHECK.promise(55, "1 if isSound(), otherwise 0");
        Searchcluster x = sound();
        long before = x.digest();
        // An act that no other number of the digest tells of.
        logOf(x, 2, 0).set(2, act(logOf(x, 2, 0).get(2), 1, 0, -1));
        CHECK.is("not sound", x.isSound(), false);
        CHECK.is("one less", before - x.digest(), 1L);
    }
}
