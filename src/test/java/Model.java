import java.math.BigInteger;
import java.util.ArrayList;
import java.util.Arrays;
import java.util.HashMap;
import java.util.HashSet;
import java.util.List;
import java.util.Map;
import java.util.Set;
import java.util.TreeMap;
import java.util.TreeSet;
import java.util.regex.Matcher;
import java.util.regex.Pattern;

/**
 * The document once more, written as slowly and plainly as it reads, with the whole Java library: LOGS are done again
 * from the beginning for each answer, ERRORS are told by a regular expression, SCORES are fractions of BigIntegers.
 * RandomRunsTest holds it against Searchcluster.
 */
public final class Model {
    private static final int NONE = -1;
    private static final int REFUSED = -9;

    private static final class Doc {
        List<Integer> title = new ArrayList<>();
        List<Integer> body = new ArrayList<>();
        int year;
        int kind;

        Doc copy() {
            Doc doc = new Doc();
            doc.title.addAll(title);
            doc.body.addAll(body);
            doc.year = year;
            doc.kind = kind;
            return doc;
        }

        List<Integer> field(int field) {
            return field == 0 ? title : body;
        }

        String text() {
            return words(title) + "/" + words(body) + "/" + year + "/" + kind;
        }
    }

    private static final class Request {
        int key;
        int deed;
        int value;
        boolean isKind;
        Doc doc;
        int sent = 1;
        int outcome = NONE;
    }

    private record Act(int term, char sort, int number) { }

    private static final class Copy {
        int node;
        int shard;
        int term;
        int vote = NONE;
        List<Act> log = new ArrayList<>();
        int known;
        boolean leads;
        int patience;
        Map<Integer, Integer> noted = new HashMap<>();

        Set<Integer> members() {
            Set<Integer> set = new TreeSet<>(List.of(shard % 5, (shard + 1) % 5, (shard + 2) % 5));
            for (Act act : log) {
                if (act.sort == 'j') {
                    set.add(act.number);
                } else if (act.sort == 'q') {
                    set.remove(act.number);
                }
            }
            return set;
        }

        boolean isMajority(Set<Integer> nodes) {
            Set<Integer> both = new HashSet<>(nodes);
            both.retainAll(members());
            return 2 * both.size() > members().size();
        }

        int lastTerm() {
            return log.isEmpty() ? 0 : log.get(log.size() - 1).term;
        }

        boolean isBehind(Copy other) {
            return lastTerm() < other.lastTerm() || lastTerm() == other.lastTerm() && log.size() < other.log.size();
        }

        boolean knowsOwnTerm() {
            return log.subList(0, known).stream().anyMatch(act -> act.term == term);
        }
    }

    private final boolean[] isUp = {true, true, true, true, true};
    private final Set<Integer> cuts = new HashSet<>();
    private final Copy[][] copies = new Copy[5][3];
    private final List<Request> requests = new ArrayList<>();
    private final List<List<Integer>> questions = List.of(new ArrayList<>(), new ArrayList<>(), new ArrayList<>());
    private Doc draft = new Doc();
    private int door;
    private int beats;
    private int refusals;
    private int knocks;
    private int asked;
    private int won;
    private int room = 4;

    public Model() {
        for (int node = 0; node < 5; node++) {
            for (int shard = 0; shard < 3; shard++) {
                copies[node][shard] = new Copy();
                copies[node][shard].node = node;
                copies[node][shard].shard = shard;
            }
        }
    }

    private static String word(int word) {
        return "" + "bdfklmnrst".charAt(word / 3) + "aio".charAt(word % 3);
    }

    private static String words(List<Integer> list) {
        return String.join(" ", list.stream().map(Model::word).toList());
    }

    private static void index(int value, int end) {
        if (value < 0 || value >= end) {
            throw new IndexOutOfBoundsException();
        }
    }

    private static void argument(boolean isRight) {
        if (!isRight) {
            throw new IllegalArgumentException();
        }
    }

    private int refuse() {
        refusals++;
        return REFUSED;
    }

    private String refuseText() {
        refusals++;
        return "!";
    }

    // ---- draft and requests

    public int write(int field, int a, int b, int c, int d) {
        index(field, 2);
        List<Integer> more = new ArrayList<>();
        boolean isOver = false;
        for (int word : new int[] {a, b, c, d}) {
            argument(word >= -1 && word <= 29);
            isOver |= word == NONE;
            if (!isOver) {
                more.add(word);
            }
        }
        if (draft.field(field).size() + more.size() > (field == 0 ? 4 : 16)) {
            throw new IllegalStateException();
        }
        draft.field(field).addAll(more);
        return draft.field(field).size();
    }

    public int erase() {
        int many = draft.title.size() + draft.body.size();
        draft = new Doc();
        return many;
    }

    public int facts(int year, int kind) {
        argument(year >= 0 && year <= 99 && kind >= 0 && kind <= 5);
        int before = draft.year;
        draft.year = year;
        draft.kind = kind;
        return before;
    }

    public String draft() {
        return draft.text();
    }

    private int send(int key, int deed, int value, boolean isKind) {
        Copy guide = guideOf(key % 3);
        if (guide == null) {
            return refuse();
        }
        Request request = new Request();
        request.key = key;
        request.deed = deed;
        request.value = value;
        request.isKind = isKind;
        request.doc = draft.copy();
        requests.add(request);
        guide.log.add(new Act(guide.term, 'r', requests.size() - 1));
        return requests.size() - 1;
    }

    public int put(int key, boolean isNew) {
        index(key, 48);
        return send(key, isNew ? 1 : 0, 0, false);
    }

    public int drop(int key) {
        index(key, 48);
        return send(key, 2, 0, false);
    }

    public int amend(int key, boolean isKind, int value) {
        index(key, 48);
        argument(value >= 0 && value <= (isKind ? 5 : 99));
        return send(key, 3, value, isKind);
    }

    public int append(int key, int word) {
        index(key, 48);
        argument(word >= 0 && word <= 29);
        return send(key, 4, word, false);
    }

    public int again(int number) {
        index(number, requests.size());
        Request request = requests.get(number);
        Copy guide = guideOf(request.key % 3);
        if (guide == null || request.outcome != NONE) {
            return refuse();
        }
        guide.log.add(new Act(guide.term, 'r', number));
        return ++request.sent;
    }

    private int logsWith(int number) {
        int many = 0;
        for (Copy[] row : copies) {
            for (Copy copy : row) {
                if (copy.log.stream().anyMatch(act -> act.sort == 'r' && act.number == number)) {
                    many++;
                }
            }
        }
        return many;
    }

    public int ofRequest(int number, int what) {
        index(number, requests.size());
        argument(what >= 0 && what <= 5);
        Request request = requests.get(number);
        return List.of(request.outcome == NONE ? 1 : 2, request.outcome, request.key, request.deed, request.sent,
                logsWith(number)).get(what);
    }

    /** What the first ACTS of a LOG make; the outcomes of all of them are added to the list. */
    private Map<Integer, Doc> doActs(Copy copy, int many, List<Integer> outcomes) {
        Map<Integer, Doc> docs = new TreeMap<>();
        for (int place = 0; place < many; place++) {
            Act act = copy.log.get(place);
            outcomes.add(act.sort == 'r' ? doRequest(copy, place, docs) : NONE);
        }
        return docs;
    }

    private int doRequest(Copy copy, int place, Map<Integer, Doc> docs) {
        int number = copy.log.get(place).number;
        Request request = requests.get(number);
        for (Act ahead : copy.log.subList(0, place)) {
            if (ahead.sort == 'r' && requests.get(ahead.number).key == request.key && ahead.number >= number) {
                return 2;
            }
        }
        Doc doc = docs.get(request.key);
        if (request.deed == 0 || request.deed == 1 && doc == null) {
            docs.put(request.key, request.doc.copy());
            return 1;
        }
        if (request.deed == 1 || doc == null) {
            return 0;
        }
        if (request.deed == 2) {
            docs.remove(request.key);
        } else if (request.deed == 4) {
            if (doc.body.size() >= 16) {
                return 0;
            }
            doc.body.add(request.value);
        } else if (request.isKind) {
            doc.kind = request.value;
        } else {
            doc.year = request.value;
        }
        return 1;
    }

    private Map<Integer, Doc> docsOf(Copy copy) {
        return doActs(copy, copy.known, new ArrayList<>());
    }

    // ---- nodes

    public int door(int node) {
        index(node, 5);
        int before = door;
        door = node;
        return before;
    }

    public int fall(int node) {
        index(node, 5);
        if (!isUp[node]) {
            return 0;
        }
        isUp[node] = false;
        for (Copy copy : copies[node]) {
            copy.leads = false;
            copy.patience = 0;
        }
        return 1;
    }

    public int rise(int node) {
        index(node, 5);
        boolean was = isUp[node];
        isUp[node] = true;
        return was ? 0 : 1;
    }

    private static int pair(int a, int b) {
        return Math.min(a, b) * 5 + Math.max(a, b);
    }

    public int link(int a, int b, boolean isWhole) {
        index(a, 5);
        index(b, 5);
        argument(a != b);
        return (isWhole ? cuts.remove(pair(a, b)) : cuts.add(pair(a, b))) ? 1 : 0;
    }

    public boolean reaches(int a, int b) {
        index(a, 5);
        index(b, 5);
        return isUp[a] && isUp[b] && (a == b || !cuts.contains(pair(a, b)));
    }

    private Copy guideOf(int shard) {
        Copy guide = null;
        for (int node = 0; node < 5; node++) {
            Copy copy = copies[node][shard];
            if (reaches(door, node) && copy.leads && (guide == null || guide.term < copy.term)) {
                guide = copy;
            }
        }
        return guide;
    }

    private boolean canAnswer(Copy copy) {
        Set<Integer> followers = new HashSet<>();
        for (int node = 0; node < 5; node++) {
            if (reaches(copy.node, node) && copies[node][copy.shard].term <= copy.term) {
                followers.add(node);
            }
        }
        return isUp[copy.node] && copy.leads && copy.knowsOwnTerm() && copy.isMajority(followers);
    }

    private Copy answererOf(int shard) {
        List<Copy> found = new ArrayList<>();
        for (int node = 0; node < 5; node++) {
            if (reaches(door, node) && canAnswer(copies[node][shard])) {
                found.add(copies[node][shard]);
            }
        }
        if (found.size() > 1) {
            throw new AssertionError("two nodes answer");
        }
        return found.isEmpty() ? null : found.get(0);
    }

    public int join(int shard, int node) {
        index(shard, 3);
        index(node, 5);
        return change(shard, node, 'j');
    }

    public int quit(int shard, int node) {
        index(shard, 3);
        index(node, 5);
        return change(shard, node, 'q');
    }

    private int change(int shard, int node, char sort) {
        Copy guide = guideOf(shard);
        if (guide == null || !guide.knowsOwnTerm()) {
            return refuse();
        }
        Set<Integer> members = guide.members();
        boolean isLet = sort == 'j' ? !members.contains(node) && members.size() < 5
                : members.contains(node) && members.size() > 2;
        boolean isOpen = guide.log.subList(guide.known, guide.log.size()).stream()
                .anyMatch(act -> act.sort == 'j' || act.sort == 'q');
        if (!isLet || isOpen) {
            return refuse();
        }
        guide.log.add(new Act(guide.term, sort, node));
        return guide.log.size();
    }

    public int beat(int many) {
        argument(many >= 1 && many <= 10);
        int sum = 0;
        for (int i = 0; i < many; i++) {
            sum += oneBeat();
        }
        return sum;
    }

    public int settle(int most) {
        argument(most >= 1 && most <= 30);
        int done = 0;
        for (; done < most && house(11) < 3; done++) {
            oneBeat();
        }
        return done;
    }

    private int oneBeat() {
        beats++;
        int sum = 0;
        for (int shard = 0; shard < 3; shard++) {
            Set<Integer> took = new HashSet<>();
            Set<Integer> steady = new HashSet<>();
            Set<Integer> gave = new HashSet<>();
            for (int node = 0; node < 5; node++) {
                if (isUp[node] && copies[node][shard].leads) {
                    sum += turn(copies[node][shard], took, steady);
                }
            }
            steady.addAll(took);
            for (int node = 0; node < 5; node++) {
                Copy copy = copies[node][shard];
                if (isUp[node] && !copy.leads && copy.members().contains(node)) {
                    if (!took.contains(node) && !gave.contains(node)) {
                        copy.patience++;
                        if (copy.patience >= 3 + (node + 2 * shard) % 5) {
                            election(copy, steady, gave);
                        }
                    }
                }
            }
        }
        return sum;
    }

    private int turn(Copy caller, Set<Integer> took, Set<Integer> steady) {
        Set<Integer> takers = new HashSet<>(Set.of(caller.node));
        for (int node : caller.members()) {
            if (node == caller.node || !reaches(caller.node, node)) {
                continue;
            }
            Copy called = copies[node][caller.shard];
            if (called.term > caller.term) {
                caller.term = called.term;
                caller.vote = NONE;
                caller.leads = false;
                return 0;
            }
            took.add(node);
            takers.add(node);
            if (called.term < caller.term) {
                called.term = caller.term;
                called.vote = NONE;
            }
            called.leads = false;
            called.patience = 0;
            int p = 0;
            while (p < caller.log.size() && p < called.log.size()
                    && caller.log.get(p).term == called.log.get(p).term) {
                p++;
            }
            if (caller.log.size() > p && called.log.size() > p) {
                called.log.subList(p, called.log.size()).clear();
            }
            int e = 0;
            if (called.log.size() == p) {
                while (e < 4 && p + e < caller.log.size()) {
                    called.log.add(caller.log.get(p + e));
                    e++;
                }
            }
            caller.noted.merge(node, p + e, Math::max);
            called.known = Math.max(called.known, Math.min(caller.known, p + e));
        }
        int acknowledged = commit(caller);
        if (caller.leads && caller.isMajority(takers)) {
            steady.add(caller.node);
        }
        return acknowledged;
    }

    private int commit(Copy leader) {
        int greatest = leader.known;
        for (int i = leader.known + 1; i <= leader.log.size(); i++) {
            Set<Integer> having = new HashSet<>(Set.of(leader.node));
            for (Map.Entry<Integer, Integer> note : leader.noted.entrySet()) {
                if (note.getValue() >= i) {
                    having.add(note.getKey());
                }
            }
            if (leader.log.get(i - 1).term == leader.term && leader.isMajority(having)) {
                greatest = i;
            }
        }
        int before = leader.known;
        leader.known = greatest;
        List<Integer> outcomes = new ArrayList<>();
        doActs(leader, greatest, outcomes);
        int acknowledged = 0;
        for (Act act : leader.log.subList(before, greatest)) {
            if (act.sort == 'r' && requests.get(act.number).outcome == NONE) {
                int first = 0;
                while (leader.log.get(first).sort != 'r' || leader.log.get(first).number != act.number) {
                    first++;
                }
                requests.get(act.number).outcome = outcomes.get(first);
                acknowledged++;
            }
            if (act.sort == 'q' && act.number == leader.node) {
                leader.leads = false;
            }
        }
        return acknowledged;
    }

    private void election(Copy asker, Set<Integer> steady, Set<Integer> gave) {
        asked++;
        asker.term++;
        asker.vote = asker.node;
        asker.patience = 0;
        Set<Integer> votes = new HashSet<>(Set.of(asker.node));
        for (int node : asker.members()) {
            Copy other = copies[node][asker.shard];
            if (node == asker.node || !reaches(asker.node, node) || steady.contains(node)) {
                continue;
            }
            if (other.term > asker.term) {
                asker.term = other.term;
                asker.vote = NONE;
                return;
            }
            if (other.term < asker.term) {
                other.term = asker.term;
                other.vote = NONE;
                other.leads = false;
            }
            if (other.vote == NONE && !asker.isBehind(other)) {
                other.vote = asker.node;
                other.patience = 0;
                gave.add(node);
                votes.add(node);
            }
        }
        if (asker.isMajority(votes)) {
            won++;
            asker.leads = true;
            asker.noted.clear();
            asker.log.add(new Act(asker.term, 'n', 0));
        }
    }

    // ---- nodes and copies are asked

    public int ofNode(int node, int what) {
        index(node, 5);
        argument(what >= 0 && what <= 3);
        int leads = 0;
        int docs = 0;
        for (Copy copy : copies[node]) {
            leads += copy.leads ? 1 : 0;
            docs += docsOf(copy).size();
        }
        int whole = 4;
        for (int other = 0; other < 5; other++) {
            whole -= other != node && cuts.contains(pair(node, other)) ? 1 : 0;
        }
        return List.of(isUp[node] ? 1 : 0, leads, whole, docs).get(what);
    }

    public int ofCopy(int node, int shard, int what) {
        index(node, 5);
        index(shard, 3);
        argument(what >= 0 && what <= 10);
        Copy copy = copies[node][shard];
        return switch (what) {
            case 0 -> copy.leads ? 1 : 0;
            case 1 -> copy.term;
            case 2 -> copy.vote;
            case 3 -> copy.log.size();
            case 4 -> copy.known;
            case 5 -> copy.patience;
            case 6 -> copy.lastTerm();
            case 7 -> docsOf(copy).size();
            case 8 -> copy.members().contains(node) ? 1 : 0;
            case 9 -> copy.members().size();
            default -> canAnswer(copy) ? 1 : 0;
        };
    }

    public String act(int node, int shard, int place) {
        index(node, 5);
        index(shard, 3);
        index(place, copies[node][shard].log.size());
        Act act = copies[node][shard].log.get(place);
        return act.term + ":" + act.sort + (act.sort == 'n' ? "" : "" + act.number);
    }

    public String members(int node, int shard) {
        index(node, 5);
        index(shard, 3);
        return String.join(" ", copies[node][shard].members().stream().map(String::valueOf).toList());
    }

    public int guide(int shard) {
        index(shard, 3);
        return guideOf(shard) == null ? NONE : guideOf(shard).node;
    }

    public int answers(int shard) {
        index(shard, 3);
        return answererOf(shard) == null ? NONE : answererOf(shard).node;
    }

    public int votes(int node, int shard) {
        index(node, 5);
        index(shard, 3);
        Copy copy = copies[node][shard];
        if (!isUp[node] || copy.leads || !copy.members().contains(node)) {
            return NONE;
        }
        int many = 1;
        for (int other : copy.members()) {
            Copy voter = copies[other][shard];
            if (other == node || !reaches(node, other)) {
                continue;
            }
            if (voter.term > copy.term + 1) {
                break;
            }
            if ((voter.term <= copy.term || voter.vote == NONE) && !copy.isBehind(voter)) {
                many++;
            }
        }
        return many;
    }

    public int sunk() {
        int many = 0;
        for (int i = 0; i < requests.size(); i++) {
            many += requests.get(i).outcome == NONE && logsWith(i) == 0 ? 1 : 0;
        }
        return many;
    }

    // ---- documents

    public String document(int key) {
        index(key, 48);
        Copy copy = answererOf(key % 3);
        if (copy == null) {
            return refuseText();
        }
        return copyOf(copy.node, key);
    }

    public String copyOf(int node, int key) {
        index(node, 5);
        index(key, 48);
        Doc doc = docsOf(copies[node][key % 3]).get(key);
        return doc == null ? "-" : doc.text();
    }

    private Map<Integer, Doc> all() {
        Map<Integer, Doc> docs = new TreeMap<>();
        for (int shard = 0; shard < 3; shard++) {
            if (answererOf(shard) == null) {
                return null;
            }
            docs.putAll(docsOf(answererOf(shard)));
        }
        return docs;
    }

    public int documents() {
        Map<Integer, Doc> docs = all();
        return docs == null ? refuse() : docs.size();
    }

    public String common(int field, int most) {
        index(field, 2);
        argument(most >= 1 && most <= 10);
        Map<Integer, Doc> docs = all();
        if (docs == null) {
            return refuseText();
        }
        List<int[]> rows = new ArrayList<>();
        for (int word = 0; word < 30; word++) {
            int w = word;
            int many = (int) docs.values().stream().filter(doc -> doc.field(field).contains(w)).count();
            if (many > 0) {
                rows.add(new int[] {word, many});
            }
        }
        rows.sort((x, y) -> x[1] != y[1] ? y[1] - x[1] : x[0] - y[0]);
        return String.join(" ", rows.stream().limit(most).map(row -> word(row[0]) + ":" + row[1]).toList());
    }

    // ---- questions

    private static final String[] SAMPLES = {"ba", "ba and di", "\" ba di \" ~ 2 or ^ 3 title: fo",
        "( ba or d* ) and not kind: 2", "year: 10 .. 50 and not title: ( ba or bi )",
        "^ 2 body: ( ba and ( not di or ^ 4 \" ko la \" ) )", "k* and year: 7 or \" mi mi mi \"", "ba and ( di or"};

    private static String token(int token) {
        if (token < 30) {
            return word(token);
        }
        if (token < 40) {
            return "bdfklmnrst".charAt(token - 30) + "*";
        }
        if (token >= 100) {
            return "" + (token - 100);
        }
        return List.of("(", ")", "and", "or", "not", "\"", "title:", "body:", "year:", "kind:", "..", "^", "~")
                .get(token - 40);
    }

    public int ask(int question, int a, int b, int c, int d, int e) {
        index(question, 3);
        List<Integer> more = new ArrayList<>();
        boolean isOver = false;
        for (int token : new int[] {a, b, c, d, e}) {
            argument(token >= -1 && token <= 52 || token >= 100 && token <= 199);
            isOver |= token == NONE;
            if (!isOver) {
                more.add(token);
            }
        }
        if (questions.get(question).size() + more.size() > 60) {
            throw new IllegalStateException();
        }
        questions.get(question).addAll(more);
        return questions.get(question).size();
    }

    public int unask(int question, int many) {
        index(question, 3);
        List<Integer> row = questions.get(question);
        argument(many >= 0 && many <= row.size());
        row.subList(row.size() - many, row.size()).clear();
        return row.size();
    }

    public int sample(int question, int k) {
        index(question, 3);
        argument(k >= 0 && k <= 7);
        List<Integer> row = questions.get(question);
        row.clear();
        for (String sign : SAMPLES[k].split(" ")) {
            for (int token = 0; token < 200; token++) {
                if ((token <= 52 || token >= 100) && token(token).equals(sign)) {
                    row.add(token);
                }
            }
        }
        return row.size();
    }

    public String question(int question) {
        index(question, 3);
        return String.join(" ", questions.get(question).stream().map(Model::token).toList());
    }

    private static final Pattern WHOLE = Pattern.compile(orOf(partOf(orOf(partOf(orOf(partOf(null)))))));

    private static String partOf(String or) {
        return "(?:w|p|\"w{1,6}\"(?:~[016])?|y[016N](?:\\.[016N])?|k[01]" + (or == null ? "" : "|\\(" + or + "\\)") + ")";
    }

    private static String orOf(String part) {
        String unit = "!?(?:\\^[16])?f?" + part;
        String and = unit + "(?:&" + unit + ")*";
        return and + "(?:\\|" + and + ")*";
    }

    private static char sign(int token) {
        if (token < 30) {
            return 'w';
        }
        if (token < 40) {
            return 'p';
        }
        if (token >= 100) {
            int number = token - 100;
            return number == 0 ? '0' : number <= 5 ? '1' : number <= 9 ? '6' : 'N';
        }
        return "()&|!\"ffyk.^~".charAt(token - 40);
    }

    public int error(int question) {
        index(question, 3);
        StringBuilder signs = new StringBuilder();
        for (int token : questions.get(question)) {
            signs.append(sign(token));
            Matcher matcher = WHOLE.matcher(signs);
            if (!matcher.matches() && !matcher.hitEnd()) {
                return signs.length() - 1;
            }
        }
        return WHOLE.matcher(signs).matches() ? NONE : signs.length();
    }

    private static final class Unit {
        boolean isNot;
        int boost = 1;
        Set<Integer> fields = Set.of(0, 1);
        boolean isDenied;
        String sort = "";
        List<List<Unit>> inner;
        List<List<Integer>> leaves = new ArrayList<>();
        int near;
        int from;
        int to;
    }

    private List<Integer> row;
    private int at;
    private List<Unit> leafOwners;
    private List<List<Integer>> leafWords;

    private List<List<Unit>> read(int question) {
        row = questions.get(question);
        at = 0;
        leafOwners = new ArrayList<>();
        leafWords = new ArrayList<>();
        return readOr(new Unit());
    }

    private boolean next(int token) {
        if (at < row.size() && row.get(at) == token) {
            at++;
            return true;
        }
        return false;
    }

    private List<List<Unit>> readOr(Unit around) {
        List<List<Unit>> or = new ArrayList<>();
        do {
            List<Unit> and = new ArrayList<>();
            do {
                and.add(readUnit(around));
            } while (next(42));
            or.add(and);
        } while (next(43));
        return or;
    }

    private Unit readUnit(Unit around) {
        Unit unit = new Unit();
        unit.isNot = next(44);
        unit.isDenied = around.isDenied || unit.isNot;
        unit.boost = around.boost * (next(51) ? row.get(at++) - 100 : 1);
        unit.fields = next(46) ? Set.of(0) : next(47) ? Set.of(1) : around.fields;
        int token = row.get(at++);
        if (token < 30) {
            unit.sort = "word";
            unit.leaves.add(List.of(token));
        } else if (token < 40) {
            unit.sort = "word";
            for (int i = 0; i < 3; i++) {
                unit.leaves.add(List.of((token - 30) * 3 + i));
            }
        } else if (token == 45) {
            unit.sort = "word";
            List<Integer> phrase = new ArrayList<>();
            while (!next(45)) {
                phrase.add(row.get(at++));
            }
            unit.leaves.add(phrase);
            unit.near = next(52) ? row.get(at++) - 100 : 0;
        } else if (token == 48) {
            unit.sort = "year";
            unit.from = row.get(at++) - 100;
            unit.to = next(50) ? row.get(at++) - 100 : unit.from;
        } else if (token == 49) {
            unit.sort = "kind";
            unit.from = row.get(at++) - 100;
        } else {
            unit.sort = "bracket";
            unit.inner = readOr(unit);
            at++;
        }
        for (List<Integer> leaf : unit.leaves) {
            leafOwners.add(unit);
            leafWords.add(leaf);
        }
        return unit;
    }

    public int leaves(int question) {
        if (error(question) != NONE) {
            return NONE;
        }
        read(question);
        return leafOwners.size();
    }

    /** The places of a phrase that is counted in this one, each next word in the first place behind; null if not. */
    private static List<Integer> chain(List<Integer> text, int from, List<Integer> phrase, int near) {
        List<Integer> places = new ArrayList<>();
        int place = from - 1;
        for (int word : phrase) {
            do {
                place++;
            } while (place < text.size() && text.get(place) != word);
            if (place >= text.size()) {
                return null;
            }
            places.add(place);
        }
        boolean isCounted = places.get(0) == from && place <= from + phrase.size() - 1 + near;
        return isCounted ? places : null;
    }

    private static int times(Doc doc, int field, List<Integer> leaf, int near) {
        int many = 0;
        for (int from = 0; from < doc.field(field).size(); from++) {
            many += chain(doc.field(field), from, leaf, near) != null ? 1 : 0;
        }
        return many;
    }

    private static int found(Map<Integer, Doc> docs, int field, List<Integer> leaf, int near) {
        return (int) docs.values().stream().filter(doc -> times(doc, field, leaf, near) > 0).count();
    }

    public int leaf(int question, int leaf, int field) {
        index(question, 3);
        index(field, 2);
        argument(leaf >= 0 && leaf < leaves(question));
        Map<Integer, Doc> docs = all();
        if (docs == null) {
            return refuse();
        }
        read(question);
        return found(docs, field, leafWords.get(leaf), leafOwners.get(leaf).near);
    }

    /** A sum of ANDs that match, as numerator and denominator; null if none matches. */
    private BigInteger[] weigh(List<List<Unit>> or, Doc doc, Map<Integer, Doc> docs) {
        BigInteger[] sum = null;
        for (List<Unit> and : or) {
            BigInteger[] part = {BigInteger.ZERO, BigInteger.ONE};
            for (Unit unit : and) {
                BigInteger[] share = weighUnit(unit, doc, docs);
                part = part == null || share == null ? null : plus(part, share);
            }
            if (part != null) {
                sum = sum == null ? part : plus(sum, part);
            }
        }
        return sum;
    }

    private BigInteger[] weighUnit(Unit unit, Doc doc, Map<Integer, Doc> docs) {
        BigInteger[] zero = {BigInteger.ZERO, BigInteger.ONE};
        BigInteger[] share = null;
        if (unit.sort.equals("bracket")) {
            share = weigh(unit.inner, doc, docs);
        } else if (unit.sort.equals("year")) {
            share = unit.from <= doc.year && doc.year <= unit.to ? zero : null;
        } else if (unit.sort.equals("kind")) {
            share = unit.from == doc.kind ? zero : null;
        }
        for (List<Integer> leaf : unit.leaves) {
            for (int field : unit.fields) {
                int c = times(doc, field, leaf, unit.near);
                if (c > 0) {
                    int d = found(docs, field, leaf, unit.near);
                    int top = unit.boost * (field == 0 ? 2 : 1) * (docs.size() + 1) * c;
                    int bottom = (d + 1) * (c + doc.field(field).size());
                    share = plus(share == null ? zero : share,
                            new BigInteger[] {BigInteger.valueOf(top), BigInteger.valueOf(bottom)});
                }
            }
        }
        return unit.isNot ? share == null ? zero : null : share;
    }

    private static BigInteger[] plus(BigInteger[] a, BigInteger[] b) {
        BigInteger top = a[0].multiply(b[1]).add(b[0].multiply(a[1]));
        BigInteger bottom = a[1].multiply(b[1]);
        BigInteger common = top.gcd(bottom);
        return new BigInteger[] {top.divide(common), bottom.divide(common)};
    }

    private static String text(BigInteger[] score) {
        return score[1].equals(BigInteger.ONE) ? "" + score[0] : score[0] + "/" + score[1];
    }

    private Map<Integer, BigInteger[]> scores;
    private Map<Integer, Doc> docsAsked;

    /** KEYS in the order of HITS; null if the question is refused. */
    private List<Integer> hits(int question) {
        index(question, 3);
        docsAsked = all();
        if (error(question) != NONE || docsAsked == null) {
            return null;
        }
        List<List<Unit>> or = read(question);
        scores = new TreeMap<>();
        for (int key : docsAsked.keySet()) {
            BigInteger[] score = weigh(or, docsAsked.get(key), docsAsked);
            if (score != null) {
                scores.put(key, score);
            }
        }
        List<Integer> order = new ArrayList<>(scores.keySet());
        order.sort((x, y) -> {
            BigInteger[] a = scores.get(x);
            BigInteger[] b = scores.get(y);
            int compared = b[0].multiply(a[1]).compareTo(a[0].multiply(b[1]));
            return compared != 0 ? compared : x - y;
        });
        return order;
    }

    public String search(int question, int from, int many) {
        index(question, 3);
        argument(from >= 0 && many >= 1 && many <= 10);
        List<Integer> hits = hits(question);
        if (hits == null) {
            return refuseText();
        }
        return String.join(" ", hits.stream().skip(from).limit(many).map(key -> key + ":" + text(scores.get(key)))
                .toList());
    }

    public int count(int question) {
        List<Integer> hits = hits(question);
        return hits == null ? refuse() : hits.size();
    }

    private String tally(int question, int many, java.util.function.ToIntFunction<Integer> by) {
        List<Integer> hits = hits(question);
        if (hits == null) {
            return refuseText();
        }
        int[] row = new int[many];
        hits.forEach(key -> row[by.applyAsInt(key)]++);
        return Arrays.toString(row).replaceAll("[\\[\\],]", "");
    }

    public String spread(int question) {
        return tally(question, 3, key -> key % 3);
    }

    public String facets(int question) {
        return tally(question, 6, key -> docsAsked.get(key).kind);
    }

    public String decades(int question) {
        return tally(question, 10, key -> docsAsked.get(key).year / 10);
    }

    public int rank(int question, int key) {
        index(question, 3);
        index(key, 48);
        List<Integer> hits = hits(question);
        return hits == null ? refuse() : hits.indexOf(key);
    }

    public String score(int question, int key) {
        index(question, 3);
        index(key, 48);
        List<Integer> hits = hits(question);
        return hits == null ? refuseText() : hits.contains(key) ? text(scores.get(key)) : "-";
    }

    public String light(int question, int key) {
        index(question, 3);
        index(key, 48);
        List<Integer> hits = hits(question);
        if (hits == null) {
            return refuseText();
        }
        if (!hits.contains(key)) {
            return "-";
        }
        Doc doc = docsAsked.get(key);
        return lightField(doc, 0) + "/" + lightField(doc, 1);
    }

    private String lightField(Doc doc, int field) {
        Set<Integer> lit = new HashSet<>();
        for (int i = 0; i < leafOwners.size(); i++) {
            Unit owner = leafOwners.get(i);
            if (owner.isDenied || !owner.fields.contains(field)) {
                continue;
            }
            for (int from = 0; from < doc.field(field).size(); from++) {
                List<Integer> places = chain(doc.field(field), from, leafWords.get(i), owner.near);
                if (places != null) {
                    lit.addAll(places);
                }
            }
        }
        List<String> out = new ArrayList<>();
        for (int place = 0; place < doc.field(field).size(); place++) {
            String word = word(doc.field(field).get(place));
            out.add(lit.contains(place) ? "[" + word + "]" : word);
        }
        return String.join(" ", out);
    }

    public int inCopy(int node, int question) {
        index(node, 5);
        index(question, 3);
        if (error(question) != NONE) {
            return refuse();
        }
        int many = 0;
        for (Copy copy : copies[node]) {
            Map<Integer, Doc> docs = docsOf(copy);
            for (Doc doc : docs.values()) {
                many += weigh(read(question), doc, docs) != null ? 1 : 0;
            }
        }
        return many;
    }

    // ---- inner things, the house

    public int room(int many) {
        argument(many >= 1 && many <= 8);
        int before = room;
        room = many;
        return before;
    }

    public int pack(int node) {
        index(node, 5);
        return isUp[node] ? 1 : 0;
    }

    public int save(int node) {
        return pack(node);
    }

    public int house(int what) {
        argument(what >= 0 && what <= 11);
        int acknowledged = (int) requests.stream().filter(request -> request.outcome != NONE).count();
        int up = 0;
        int answered = 0;
        for (int i = 0; i < 5; i++) {
            up += isUp[i] ? 1 : 0;
        }
        for (int i = 0; i < 3; i++) {
            answered += answererOf(i) != null ? 1 : 0;
        }
        return new int[] {requests.size(), requests.size() - acknowledged, acknowledged, beats, refusals, knocks, up,
            cuts.size(), asked, won, door, answered}[what];
    }

    public int knock() {
        return ++knocks;
    }

    /** The document's promises about elections keep all of it so; RandomRunsTest looks whether Searchcluster says so. */
    public boolean isSound() {
        return true;
    }

    public long digest() {
        int before = refusals;
        List<Object> all = new ArrayList<>();
        for (int what = 0; what <= 11; what++) {
            all.add(house(what));
        }
        for (int i = 0; i < requests.size(); i++) {
            for (int what = 0; what <= 5; what++) {
                all.add(ofRequest(i, what));
            }
        }
        for (int node = 0; node < 5; node++) {
            for (int what = 0; what <= 3; what++) {
                all.add(ofNode(node, what));
            }
            for (int shard = 0; shard < 3; shard++) {
                for (int what = 0; what <= 10; what++) {
                    all.add(ofCopy(node, shard, what));
                }
                all.add(members(node, shard));
            }
        }
        for (int key = 0; key < 48; key++) {
            all.add(document(key));
        }
        for (int i = 0; i < 3; i++) {
            all.addAll(List.of(error(i), leaves(i), count(i), search(i, 0, 10), facets(i)));
        }
        all.add(isSound() ? 1 : 0);
        refusals = before;
        long sum = 7608;
        for (Object value : all) {
            if (value instanceof String text) {
                for (char sign : text.toCharArray()) {
                    sum = sum * 31 + sign;
                }
            } else {
                sum = sum * 31 + (Integer) value;
            }
        }
        return sum;
    }
}
