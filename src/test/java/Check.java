/** What the tests have in common: it counts what is not as due, and ends the test accordingly. */
final class Check {
    private final String name;
    private String sentence = "";
    private int wrong = 0;
    private int done = 0;

    Check(String name) {
        this.name = name;
    }

    void is(String what, Object got, Object due) {
        done++;
        if (!due.equals(got)) {
            wrong++;
            System.out.println(name + sentence + ": " + what + " answered " + got + ", due is " + due);
        }
    }

    /** What is looked at from now on: a sentence (or a part of one) that stands in that section of the document. */
    void section(int number, String quoted) {
        is("in section " + number + " stands: " + quoted, DocText.isInSection(number, quoted), true);
        sentence = ", section " + number + " (" + quoted + ")";
    }

    /** Likewise, of that promise. */
    void promise(int number, String quoted) {
        is("in promise " + number + " stands: " + quoted, DocText.isInPromise(number, quoted), true);
        sentence = ", promise " + number + " (" + quoted + ")";
    }

    /** The ACTS of a LOG: "1:n 1:r0". */
    static String log(Searchcluster x, int node, int shard) {
        StringBuilder all = new StringBuilder();
        int many = x.ofCopy(node, shard, 3);
        for (int place = 0; place < many; place++) {
            all.append(place == 0 ? "" : " ").append(x.act(node, shard, place));
        }
        return all.toString();
    }

    /** What a COPY is by, but its LOG: "leads, term 1, vote 0, acts 2, known 1, patience 0". */
    static String state(Searchcluster x, int node, int shard) {
        return (x.ofCopy(node, shard, 0) == 1 ? "leads" : "follows") + ", term " + x.ofCopy(node, shard, 1) + ", vote "
                + x.ofCopy(node, shard, 2) + ", acts " + x.ofCopy(node, shard, 3) + ", known " + x.ofCopy(node, shard, 4)
                + ", patience " + x.ofCopy(node, shard, 5);
    }

    /** All its LINKS to these are CUT, or whole. */
    static void link(Searchcluster x, boolean isWhole, int node, int... others) {
        for (int other : others) {
            x.link(node, other, isWhole);
        }
    }

    /** A cluster in which each shard is answered: by node 0, 3 and 2, behind 5 beats. */
    static Searchcluster settled() {
        Searchcluster x = new Searchcluster();
        x.settle(30);
        return x;
    }

    /** Writes the draft anew; the words are told as they are written. */
    static void draft(Searchcluster x, String title, String body, int year, int kind) {
        x.erase();
        x.facts(year, kind);
        for (String word : title.split(" ")) {
            x.write(0, word(word), -1, -1, -1);
        }
        for (String word : body.split(" ")) {
            x.write(1, word(word), -1, -1, -1);
        }
    }

    static int word(String text) {
        return text.isEmpty() ? -1 : "bdfklmnrst".indexOf(text.charAt(0)) * 3 + "aio".indexOf(text.charAt(1));
    }

    /** Makes a question anew of tokens that are told as they are written. */
    static void pose(Searchcluster x, int question, String text) {
        x.unask(question, x.ask(question, -1, -1, -1, -1, -1));
        for (String token : text.split(" ")) {
            x.ask(question, token(token), -1, -1, -1, -1);
        }
    }

    static int token(String text) {
        java.util.List<String> signs = java.util.List.of("(", ")", "and", "or", "not", "\"", "title:", "body:", "year:",
                "kind:", "..", "^", "~");
        if (text.isEmpty()) {
            return -1;
        }
        if (signs.contains(text)) {
            return 40 + signs.indexOf(text);
        }
        if (Character.isDigit(text.charAt(0))) {
            return 100 + Integer.parseInt(text);
        }
        return text.endsWith("*") ? 30 + "bdfklmnrst".indexOf(text.charAt(0)) : word(text);
    }

    void end() {
        System.out.println(name + ": " + done + " looked at, " + wrong + " not as due");
        if (wrong > 0) {
            System.exit(1);
        }
    }
}
