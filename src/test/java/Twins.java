/**
 * What a call does, seen on objects that are made by the same calls: one of them for the call itself, some others for
 * what can be seen before and behind it, so that none is used for more than 512 calls.
 */
final class Twins {
    interface Recipe {
        void make(Searchcluster x);
    }

    interface Call {
        Object run(Searchcluster x);
    }

    private final Check check;
    private final Recipe recipe;
    private final String before;

    Twins(Check check, Recipe recipe) {
        this.check = check;
        this.recipe = recipe;
        this.before = picture(null);
    }

    private Searchcluster made() {
        Searchcluster x = new Searchcluster();
        recipe.make(x);
        return x;
    }

    private Searchcluster madeAnd(Call call) {
        Searchcluster x = made();
        if (call != null) {
            answerOf(x, call);
        }
        return x;
    }

    /** What it throws is told by its class, and by itself if it is the machine that throws it. */
    private static Object answerOf(Searchcluster x, Call call) {
        try {
            return call.run(x);
        } catch (RuntimeException e) {
            return isThrownByTheClass(e) ? e.getClass() : e;
        }
    }

    /** By a throw of its own, not by the machine or the library. */
    private static boolean isThrownByTheClass(RuntimeException e) {
        return e.getStackTrace().length > 0 && e.getStackTrace()[0].getClassName().startsWith("Searchcluster");
    }

    private int refusalsBehind(Call call) {
        return madeAnd(call).house(4);
    }

    /** The call throws just this, and changes nothing. */
    void fails(String what, Class<? extends RuntimeException> due, Call call) {
        check.is(what, answerOf(made(), call), due);
        check.is("changed by " + what, change(picture(call)), "nothing");
        check.is("refusals behind " + what, refusalsBehind(call), refusalsBehind(null));
    }

    /** The call is REFUSED (a text: "!"), and changes nothing but how often that was told. */
    void refused(String what, Call call) {
        Object got = answerOf(made(), call);
        check.is(what, got, got instanceof String ? "!" : (Object) (-9));
        check.is("changed by " + what, change(picture(call)), "nothing");
        check.is("refusals behind " + what, refusalsBehind(call), refusalsBehind(null) + 1);
    }

    /** The call answers this, and changes nothing. */
    void tells(String what, Object due, Call call) {
        check.is(what, answerOf(made(), call), due);
        check.is("changed by " + what, change(picture(call)), "nothing");
        check.is("refusals behind " + what, refusalsBehind(call), refusalsBehind(null));
    }

    /** The call answers this, whatever it changes. */
    void answers(String what, Object due, Call call) {
        check.is(what, answerOf(made(), call), due);
    }

    /** The call throws nothing. */
    void isLet(String what, Call call) {
        Object got = answerOf(made(), call);
        check.is(what, got instanceof Class<?> || got instanceof Throwable ? got : "let", "let");
    }

    /** The call throws nothing, and changes nothing but how often REFUSED was told, if it tells that. */
    void asks(String what, Call call) {
        isLet(what, call);
        Object got = answerOf(made(), call);
        int more = got.equals(-9) || got.equals("!") ? 1 : 0;
        check.is("changed by " + what, change(picture(call)), "nothing");
        check.is("refusals behind " + what, refusalsBehind(call), refusalsBehind(null) + more);
    }

    private String change(String now) {
        int from = 0;
        while (from < Math.min(now.length(), before.length()) && now.charAt(from) == before.charAt(from)) {
            from++;
        }
        return now.equals(before) ? "nothing" : part(before, from) + " to " + part(now, from);
    }

    private static String part(String text, int from) {
        return text.substring(Math.min(text.length(), Math.max(0, from - 20)), Math.min(text.length(), from + 20));
    }

    /** All that can be seen without being REFUSED, but how often one was. */
    private String picture(Call call) {
        return seenOfNodes(madeAnd(call)) + seenOfLogs(madeAnd(call)) + seenOfDocuments(madeAnd(call));
    }

    private static String seenOfNodes(Searchcluster x) {
        StringBuilder all = new StringBuilder();
        for (int what = 0; what <= 11; what++) {
            all.append(what == 4 ? "" : " " + x.house(what));
        }
        for (int i = 0; i < x.house(0); i++) {
            for (int what = 0; what <= 5; what++) {
                all.append(' ').append(x.ofRequest(i, what));
            }
        }
        for (int node = 0; node < 5; node++) {
            for (int other = 0; other < node; other++) {
                all.append(x.reaches(node, other));
            }
            for (int what = 0; what <= 3; what++) {
                all.append(' ').append(x.ofNode(node, what));
            }
            for (int shard = 0; shard < 3; shard++) {
                for (int what = 0; what <= 10; what++) {
                    all.append(' ').append(x.ofCopy(node, shard, what));
                }
                all.append(' ').append(x.members(node, shard));
            }
        }
        return all.toString();
    }

    private static String seenOfLogs(Searchcluster x) {
        StringBuilder all = new StringBuilder();
        for (int node = 0; node < 5; node++) {
            for (int shard = 0; shard < 3; shard++) {
                all.append(Check.log(x, node, shard)).append(x.votes(node, shard));
            }
        }
        for (int shard = 0; shard < 3; shard++) {
            all.append(x.guide(shard)).append(x.answers(shard));
        }
        return all.append(x.sunk()).toString();
    }

    private static String seenOfDocuments(Searchcluster x) {
        StringBuilder all = new StringBuilder(x.draft());
        for (int node = 0; node < 5; node++) {
            for (int key = 0; key < 48; key++) {
                all.append(x.copyOf(node, key));
            }
        }
        for (int i = 0; i < 3; i++) {
            all.append(x.question(i)).append(x.error(i)).append(x.leaves(i));
        }
        return all.append(x.room(8)).toString();
    }
}
