import java.util.ArrayList;

/** Five nodes that keep and search documents in three shards; what it must do stands in shared/DOC.md. */
public final class Searchcluster {
    private static final int NONE = -1;
    private static final int REFUSED = -9;
    private static final int NODES = 5;
    private static final int SHARDS = 3;
    private static final int KEYS = 48;
    private static final int SLOTS = 16;
    private static final int FIELDS = 2;
    private static final int TITLE = 0;
    private static final int BODY = 1;
    private static final int TITLE_ROOM = 4;
    private static final int BODY_ROOM = 16;
    private static final int YEARS = 100;
    private static final int KINDS = 6;
    private static final int DECADES = 10;
    private static final int QUESTIONS = 3;
    private static final int TOLD_MOST = 10;
    /** A REQUEST costs a call, and nothing is promised of an object behind its 512th one. */
    private static final int REQUESTS_MOST = 512;
    /** More than 512 calls can bring about, with 30 BEATS each and a win of each NODE in every third one. */
    private static final int ACTS_MOST = 32768;

    private static final int WORDS = 30;
    private static final int PREFIXES_END = 40;
    private static final int OPEN = 40;
    private static final int CLOSE = 41;
    private static final int AND = 42;
    private static final int OR = 43;
    private static final int NOT = 44;
    private static final int QUOTE = 45;
    private static final int IN_TITLE = 46;
    private static final int IN_BODY = 47;
    private static final int YEAR = 48;
    private static final int KIND = 49;
    private static final int DOTS = 50;
    private static final int BOOST = 51;
    private static final int NEAR = 52;
    private static final int NUMBERS = 100;
    private static final int NUMBERS_END = 200;
    private static final int TOKENS_MOST = 60;
    private static final int GIVEN_MOST = 5;

    private static final int[] SAMPLE_0 = {0};
    private static final int[] SAMPLE_1 = {0, 42, 4};
    private static final int[] SAMPLE_2 = {45, 0, 4, 45, 52, 102, 43, 51, 103, 46, 8};
    private static final int[] SAMPLE_3 = {40, 0, 43, 31, 41, 42, 44, 49, 102};
    private static final int[] SAMPLE_4 = {48, 110, 50, 150, 42, 44, 46, 40, 0, 43, 1, 41};
    private static final int[] SAMPLE_5 = {51, 102, 47, 40, 0, 42, 40, 44, 4, 43, 51, 104, 45, 11, 12, 45, 41, 41};
    private static final int[] SAMPLE_6 = {33, 42, 48, 107, 43, 45, 16, 16, 16, 45};
    private static final int[] SAMPLE_7 = {0, 42, 40, 4, 43};

    private final Net net = new Net();
    private final Shard[] shards = new Shard[SHARDS];
    private final Doc draft = new Doc();
    private final ArrayList<Request> requests = new ArrayList<>();
    private final Question[] questions = new Question[QUESTIONS];
    private final Finder finder = new Finder();
    private final Shelf spare = new Shelf();
    private final StringBuilder text = new StringBuilder();
    private final int[] given = new int[GIVEN_MOST];
    private int door = 0;
    private int beats = 0;
    private int refusals = 0;
    private int knocks = 0;
    /** Told by room() and to nobody else. */
    private int keptAsTheyCome = 4;

    public Searchcluster() {
        for (int i = 0; i < SHARDS; i++) {
            shards[i] = new Shard(i, net);
        }
        for (int i = 0; i < QUESTIONS; i++) {
            questions[i] = new Question();
        }
    }

    // ---- the draft

    public int write(int field, int a, int b, int c, int d)
            throws IndexOutOfBoundsException, IllegalArgumentException, IllegalStateException {
        needIndex(field, FIELDS);
        int many = gather(a, b, c, d, NONE);
        for (int i = 0; i < GIVEN_MOST; i++) {
            need(given[i] == NONE || isWord(given[i]));
        }
        if (draft.sizeOf(field) + many > Doc.roomOf(field)) {
            throw new IllegalStateException("the FIELD is too small for these WORDS");
        }
        for (int i = 0; i < many; i++) {
            draft.addWord(field, given[i]);
        }
        return draft.sizeOf(field);
    }

    public int erase() {
        int before = draft.titleSize + draft.bodySize;
        draft.clear();
        return before;
    }

    public int facts(int year, int kind) throws IllegalArgumentException {
        need(canBeYear(year) && canBeKind(kind));
        int before = draft.year;
        draft.year = year;
        draft.kind = kind;
        return before;
    }

    public String draft() {
        text.setLength(0);
        draft.tell(text);
        return text.toString();
    }

    // ---- requests

    public int put(int key, boolean isNew) throws IndexOutOfBoundsException {
        needIndex(key, KEYS);
        return sendNew(key, isNew ? Request.NEW : Request.PUT, 0, false);
    }

    public int drop(int key) throws IndexOutOfBoundsException {
        needIndex(key, KEYS);
        return sendNew(key, Request.DROP, 0, false);
    }

    public int amend(int key, boolean isKind, int value) throws IndexOutOfBoundsException, IllegalArgumentException {
        needIndex(key, KEYS);
        need(isKind ? canBeKind(value) : canBeYear(value));
        return sendNew(key, Request.AMEND, value, isKind);
    }

    public int append(int key, int word) throws IndexOutOfBoundsException, IllegalArgumentException {
        needIndex(key, KEYS);
        need(isWord(word));
        return sendNew(key, Request.APPEND, word, false);
    }

    public int again(int request) throws IndexOutOfBoundsException {
        needIndex(request, requests.size());
        Request sent = requests.get(request);
        Copy guide = shards[sent.key % SHARDS].guideFrom(door);
        if (guide == null || sent.isAcknowledged()) {
            return refuse();
        }
        guide.add(new Act(guide.term, Act.REQUEST, request, sent));
        sent.timesSent++;
        return sent.timesSent;
    }

    public int ofRequest(int request, int what) throws IndexOutOfBoundsException, IllegalArgumentException {
        needIndex(request, requests.size());
        need(isWithin(what, 0, 5));
        return requests.get(request).factOf(what);
    }

    private int sendNew(int key, int deed, int value, boolean isKind) {
        Copy guide = shards[key % SHARDS].guideFrom(door);
        if (guide == null || requests.size() >= REQUESTS_MOST) {
            return refuse();
        }
        Doc doc = null;
        if (deed == Request.PUT || deed == Request.NEW) {
            doc = new Doc();
            doc.takeFrom(draft);
            doc.isThere = true;
        }
        Request sent = new Request(requests.size(), key, deed, value, isKind, doc);
        requests.add(sent);
        guide.add(new Act(guide.term, Act.REQUEST, sent.number, sent));
        return sent.number;
    }

    // ---- what happens to nodes

    public int door(int node) throws IndexOutOfBoundsException {
        needIndex(node, NODES);
        int before = door;
        door = node;
        return before;
    }

    public int fall(int node) throws IndexOutOfBoundsException {
        needIndex(node, NODES);
        if (!net.isUp(node)) {
            return 0;
        }
        net.setUp(node, false);
        for (int i = 0; i < SHARDS; i++) {
            Copy copy = shards[i].copies[node];
            copy.leads = false;
            copy.patience = 0;
        }
        return 1;
    }

    public int rise(int node) throws IndexOutOfBoundsException {
        needIndex(node, NODES);
        if (net.isUp(node)) {
            return 0;
        }
        net.setUp(node, true);
        return 1;
    }

    public int link(int a, int b, boolean isWhole) throws IndexOutOfBoundsException, IllegalArgumentException {
        needIndex(a, NODES);
        needIndex(b, NODES);
        need(a != b);
        if (net.isWhole(a, b) == isWhole) {
            return 0;
        }
        net.setWhole(a, b, isWhole);
        return 1;
    }

    public int join(int shard, int node) throws IndexOutOfBoundsException {
        needIndex(shard, SHARDS);
        needIndex(node, NODES);
        return changeMembers(shard, node, true);
    }

    public int quit(int shard, int node) throws IndexOutOfBoundsException {
        needIndex(shard, SHARDS);
        needIndex(node, NODES);
        return changeMembers(shard, node, false);
    }

    public int beat(int many) throws IllegalArgumentException {
        need(isWithin(many, 1, 10));
        int acknowledged = 0;
        for (int i = 0; i < many; i++) {
            acknowledged += runBeat();
        }
        return acknowledged;
    }

    public int settle(int most) throws IllegalArgumentException {
        need(isWithin(most, 1, 30));
        int done = 0;
        while (done < most && countAnswered() < SHARDS) {
            runBeat();
            done++;
        }
        return done;
    }

    private int changeMembers(int shard, int node, boolean isJoin) {
        Copy guide = shards[shard].guideFrom(door);
        if (guide == null || !guide.canChange(node, isJoin)) {
            return refuse();
        }
        guide.add(new Act(guide.term, isJoin ? Act.JOIN : Act.QUIT, node, null));
        return guide.log.size();
    }

    private int runBeat() {
        beats++;
        int acknowledged = 0;
        for (int i = 0; i < SHARDS; i++) {
            acknowledged += shards[i].runBeat();
        }
        return acknowledged;
    }

    private int countAnswered() {
        int answered = 0;
        for (int i = 0; i < SHARDS; i++) {
            if (shards[i].answererFrom(door) != null) {
                answered++;
            }
        }
        return answered;
    }

    // ---- what is asked of nodes and copies

    public boolean reaches(int a, int b) throws IndexOutOfBoundsException {
        needIndex(a, NODES);
        needIndex(b, NODES);
        return net.canReach(a, b);
    }

    public int ofNode(int node, int what) throws IndexOutOfBoundsException, IllegalArgumentException {
        needIndex(node, NODES);
        need(isWithin(what, 0, 3));
        return factOfNode(node, what);
    }

    public int ofCopy(int node, int shard, int what) throws IndexOutOfBoundsException, IllegalArgumentException {
        needIndex(node, NODES);
        needIndex(shard, SHARDS);
        need(isWithin(what, 0, 10));
        return shards[shard].factOf(shards[shard].copies[node], what);
    }

    public String act(int node, int shard, int place) throws IndexOutOfBoundsException {
        needIndex(node, NODES);
        needIndex(shard, SHARDS);
        Act act = shards[shard].copies[node].actAt(place);
        if (act == null) {
            throw new IndexOutOfBoundsException("no such place in the LOG");
        }
        text.setLength(0);
        act.tell(text);
        return text.toString();
    }

    public String members(int node, int shard) throws IndexOutOfBoundsException {
        needIndex(node, NODES);
        needIndex(shard, SHARDS);
        text.setLength(0);
        shards[shard].copies[node].tellMembers(text);
        return text.toString();
    }

    public int guide(int shard) throws IndexOutOfBoundsException {
        needIndex(shard, SHARDS);
        Copy guide = shards[shard].guideFrom(door);
        return guide == null ? NONE : guide.node;
    }

    public int answers(int shard) throws IndexOutOfBoundsException {
        needIndex(shard, SHARDS);
        Copy answerer = shards[shard].answererFrom(door);
        return answerer == null ? NONE : answerer.node;
    }

    public int votes(int node, int shard) throws IndexOutOfBoundsException {
        needIndex(node, NODES);
        needIndex(shard, SHARDS);
        return shards[shard].foreseeVotes(shards[shard].copies[node]);
    }

    public int sunk() {
        int many = 0;
        for (int i = 0; i < requests.size(); i++) {
            Request sent = requests.get(i);
            if (!sent.isAcknowledged() && sent.countLogs() == 0) {
                many++;
            }
        }
        return many;
    }

    private int factOfNode(int node, int what) {
        if (what == 0) {
            return net.isUp(node) ? 1 : 0;
        }
        if (what == 2) {
            return net.countWhole(node);
        }
        int sum = 0;
        for (int i = 0; i < SHARDS; i++) {
            Copy copy = shards[i].copies[node];
            if (what == 3) {
                sum += copy.shelf.countDocs();
            } else if (copy.leads) {
                sum++;
            }
        }
        return sum;
    }

    // ---- what is asked of documents

    public String document(int key) throws IndexOutOfBoundsException {
        needIndex(key, KEYS);
        text.setLength(0);
        if (!tellDocument(key)) {
            return refuseText();
        }
        return text.toString();
    }

    public String copyOf(int node, int key) throws IndexOutOfBoundsException {
        needIndex(node, NODES);
        needIndex(key, KEYS);
        text.setLength(0);
        shards[key % SHARDS].copies[node].shelf.docs[key / SHARDS].tellIfThere(text);
        return text.toString();
    }

    public int documents() {
        return takeView() ? finder.docCount : refuse();
    }

    public String common(int field, int most) throws IndexOutOfBoundsException, IllegalArgumentException {
        needIndex(field, FIELDS);
        need(isWithin(most, 1, TOLD_MOST));
        if (!takeView()) {
            return refuseText();
        }
        text.setLength(0);
        finder.tellCommon(text, field, most);
        return text.toString();
    }

    /** Tells the DOCUMENT, "-" or "!" into the text; false if the SHARD is not ANSWERED. */
    private boolean tellDocument(int key) {
        Copy answerer = shards[key % SHARDS].answererFrom(door);
        if (answerer == null) {
            text.append('!');
            return false;
        }
        answerer.shelf.docs[key / SHARDS].tellIfThere(text);
        return true;
    }

    /** Lays the DOCUMENTS of the COPIES that answer before the finder; false if a SHARD is not ANSWERED. */
    private boolean takeView() {
        for (int i = 0; i < SHARDS; i++) {
            Copy answerer = shards[i].answererFrom(door);
            if (answerer == null) {
                return false;
            }
            finder.look(i, answerer.shelf);
        }
        finder.countDocs();
        return true;
    }

    // ---- questions

    public int ask(int question, int a, int b, int c, int d, int e)
            throws IndexOutOfBoundsException, IllegalArgumentException, IllegalStateException {
        needIndex(question, QUESTIONS);
        int many = gather(a, b, c, d, e);
        for (int i = 0; i < GIVEN_MOST; i++) {
            need(given[i] == NONE || isToken(given[i]));
        }
        Question asked = questions[question];
        if (asked.size + many > TOKENS_MOST) {
            throw new IllegalStateException("a QUESTION has at most 60 TOKENS");
        }
        asked.addTokens(given, many);
        return asked.size;
    }

    public int unask(int question, int many) throws IndexOutOfBoundsException, IllegalArgumentException {
        needIndex(question, QUESTIONS);
        Question asked = questions[question];
        need(isWithin(many, 0, asked.size));
        asked.cutTo(asked.size - many);
        return asked.size;
    }

    public int sample(int question, int k) throws IndexOutOfBoundsException, IllegalArgumentException {
        needIndex(question, QUESTIONS);
        need(isWithin(k, 0, 7));
        int[] tokens = sampleTokens(k);
        Question asked = questions[question];
        asked.cutTo(0);
        asked.addTokens(tokens, tokens.length);
        return asked.size;
    }

    public String question(int question) throws IndexOutOfBoundsException {
        needIndex(question, QUESTIONS);
        text.setLength(0);
        questions[question].tell(text);
        return text.toString();
    }

    public int error(int question) throws IndexOutOfBoundsException {
        needIndex(question, QUESTIONS);
        return questions[question].error;
    }

    public int leaves(int question) throws IndexOutOfBoundsException {
        needIndex(question, QUESTIONS);
        return questions[question].countLeaves();
    }

    public int leaf(int question, int leaf, int field) throws IndexOutOfBoundsException, IllegalArgumentException {
        needIndex(question, QUESTIONS);
        needIndex(field, FIELDS);
        need(isWithin(leaf, 0, questions[question].countLeaves() - 1));
        if (!takeView()) {
            return refuse();
        }
        finder.countFound(questions[question]);
        return finder.foundOf(leaf, field);
    }

    // ---- answers

    public String search(int question, int from, int many) throws IndexOutOfBoundsException, IllegalArgumentException {
        needIndex(question, QUESTIONS);
        need(from >= 0 && isWithin(many, 1, TOLD_MOST));
        if (!findHits(question)) {
            return refuseText();
        }
        text.setLength(0);
        finder.tellHits(text, from, many);
        return text.toString();
    }

    public int count(int question) throws IndexOutOfBoundsException {
        needIndex(question, QUESTIONS);
        return findHits(question) ? finder.hitCount : refuse();
    }

    public String spread(int question) throws IndexOutOfBoundsException {
        return tellTally(question, Finder.BY_SHARD, SHARDS);
    }

    public String facets(int question) throws IndexOutOfBoundsException {
        return tellTally(question, Finder.BY_KIND, KINDS);
    }

    public String decades(int question) throws IndexOutOfBoundsException {
        return tellTally(question, Finder.BY_DECADE, DECADES);
    }

    public int rank(int question, int key) throws IndexOutOfBoundsException {
        needIndex(question, QUESTIONS);
        needIndex(key, KEYS);
        return findHits(question) ? finder.placeOf(key) : refuse();
    }

    public String score(int question, int key) throws IndexOutOfBoundsException {
        needIndex(question, QUESTIONS);
        needIndex(key, KEYS);
        if (!findHits(question)) {
            return refuseText();
        }
        text.setLength(0);
        if (finder.placeOf(key) == NONE) {
            text.append('-');
        } else {
            finder.tellScore(text, key);
        }
        return text.toString();
    }

    public String light(int question, int key) throws IndexOutOfBoundsException {
        needIndex(question, QUESTIONS);
        needIndex(key, KEYS);
        if (!findHits(question)) {
            return refuseText();
        }
        text.setLength(0);
        if (finder.placeOf(key) == NONE) {
            text.append('-');
        } else {
            finder.tellLight(text, questions[question], key);
        }
        return text.toString();
    }

    public int inCopy(int node, int question) throws IndexOutOfBoundsException {
        needIndex(node, NODES);
        needIndex(question, QUESTIONS);
        if (questions[question].error != NONE) {
            return refuse();
        }
        for (int i = 0; i < SHARDS; i++) {
            finder.look(i, shards[i].copies[node].shelf);
        }
        return finder.countMatches(questions[question]);
    }

    /** Lays the HITS of a QUESTION ready in the finder; false if it is REFUSED. */
    private boolean findHits(int question) {
        if (questions[question].error != NONE || !takeView()) {
            return false;
        }
        finder.countFound(questions[question]);
        finder.findHits(questions[question]);
        return true;
    }

    private String tellTally(int question, int by, int many) {
        needIndex(question, QUESTIONS);
        if (!findHits(question)) {
            return refuseText();
        }
        text.setLength(0);
        finder.tellTally(text, by, many);
        return text.toString();
    }

    // ---- inner things: no answer depends on them, and there is no index and no disk apart from the COPIES

    public int room(int many) throws IllegalArgumentException {
        need(isWithin(many, 1, 8));
        int before = keptAsTheyCome;
        keptAsTheyCome = many;
        return before;
    }

    public int pack(int node) throws IndexOutOfBoundsException {
        needIndex(node, NODES);
        return net.isUp(node) ? 1 : 0;
    }

    public int save(int node) throws IndexOutOfBoundsException {
        needIndex(node, NODES);
        return net.isUp(node) ? 1 : 0;
    }

    // ---- the house

    public int house(int what) throws IllegalArgumentException {
        need(isWithin(what, 0, 11));
        return factOfHouse(what);
    }

    public int knock() {
        knocks++;
        return knocks;
    }

    public boolean isSound() {
        return holdsAll();
    }

    public long digest() {
        long sum = 7608;
        for (int what = 0; what <= 11; what++) {
            sum = mix(sum, factOfHouse(what));
        }
        for (int i = 0; i < requests.size(); i++) {
            for (int what = 0; what <= 5; what++) {
                sum = mix(sum, requests.get(i).factOf(what));
            }
        }
        for (int node = 0; node < NODES; node++) {
            sum = mixNode(sum, node);
        }
        for (int key = 0; key < KEYS; key++) {
            text.setLength(0);
            tellDocument(key);
            sum = mixText(sum);
        }
        for (int i = 0; i < QUESTIONS; i++) {
            sum = mixQuestion(sum, i);
        }
        return mix(sum, holdsAll() ? 1 : 0);
    }

    private int factOfHouse(int what) {
        switch (what) {
            case 0: return requests.size();
            case 1: return requests.size() - countAcknowledged();
            case 2: return countAcknowledged();
            case 3: return beats;
            case 4: return refusals;
            case 5: return knocks;
            case 6: return net.countUp();
            case 7: return net.countCut();
            case 8: return shards[0].asked + shards[1].asked + shards[2].asked;
            case 9: return shards[0].won + shards[1].won + shards[2].won;
            case 10: return door;
            default: return countAnswered();
        }
    }

    private int countAcknowledged() {
        int many = 0;
        for (int i = 0; i < requests.size(); i++) {
            if (requests.get(i).isAcknowledged()) {
                many++;
            }
        }
        return many;
    }

    private boolean holdsAll() {
        for (int i = 0; i < SHARDS; i++) {
            if (!shards[i].holds(spare)) {
                return false;
            }
        }
        for (int i = 0; i < QUESTIONS; i++) {
            if (findHits(i) && !finder.holds(questions[i])) {
                return false;
            }
        }
        return true;
    }

    private static long mix(long sum, long value) {
        return sum * 31 + value;
    }

    private long mixText(long sum) {
        long mixed = sum;
        for (int i = 0; i < text.length(); i++) {
            mixed = mix(mixed, text.charAt(i));
        }
        return mixed;
    }

    private long mixNode(long sum, int node) {
        long mixed = sum;
        for (int what = 0; what <= 3; what++) {
            mixed = mix(mixed, factOfNode(node, what));
        }
        for (int i = 0; i < SHARDS; i++) {
            Copy copy = shards[i].copies[node];
            for (int what = 0; what <= 10; what++) {
                mixed = mix(mixed, shards[i].factOf(copy, what));
            }
            text.setLength(0);
            copy.tellMembers(text);
            mixed = mixText(mixed);
        }
        return mixed;
    }

    private long mixQuestion(long sum, int question) {
        long mixed = mix(sum, questions[question].error);
        mixed = mix(mixed, questions[question].countLeaves());
        if (!findHits(question)) {
            mixed = mix(mixed, REFUSED);
            mixed = mix(mixed, '!');
            return mix(mixed, '!');
        }
        mixed = mix(mixed, finder.hitCount);
        text.setLength(0);
        finder.tellHits(text, 0, TOLD_MOST);
        mixed = mixText(mixed);
        text.setLength(0);
        finder.tellTally(text, Finder.BY_KIND, KINDS);
        return mixText(mixed);
    }

    // ---- what is told of wrong and refused calls

    private int refuse() {
        refusals++;
        return REFUSED;
    }

    private String refuseText() {
        refusals++;
        return "!";
    }

    /** For what is numbered from 0 on: whether there is such a one. */
    private static void needIndex(int number, int many) {
        if (number < 0 || number >= many) {
            throw new IndexOutOfBoundsException("nothing has this number");
        }
    }

    private static void need(boolean isRight) {
        if (!isRight) {
            throw new IllegalArgumentException("an argument is not what the document lets it be");
        }
    }

    private static boolean isWithin(int value, int least, int most) {
        return value >= least && value <= most;
    }

    private static boolean isWord(int value) {
        return isWithin(value, 0, WORDS - 1);
    }

    private static boolean canBeYear(int value) {
        return isWithin(value, 0, YEARS - 1);
    }

    private static boolean canBeKind(int value) {
        return isWithin(value, 0, KINDS - 1);
    }

    private static boolean isToken(int value) {
        return isWithin(value, 0, NEAR) || isWithin(value, NUMBERS, NUMBERS_END - 1);
    }

    /** Lays all five into the row of the given ones; tells how many stand ahead of the first NONE. */
    private int gather(int a, int b, int c, int d, int e) {
        given[0] = a;
        given[1] = b;
        given[2] = c;
        given[3] = d;
        given[4] = e;
        int many = 0;
        while (many < GIVEN_MOST && given[many] != NONE) {
            many++;
        }
        return many;
    }

    private static int[] sampleTokens(int k) {
        switch (k) {
            case 0: return SAMPLE_0;
            case 1: return SAMPLE_1;
            case 2: return SAMPLE_2;
            case 3: return SAMPLE_3;
            case 4: return SAMPLE_4;
            case 5: return SAMPLE_5;
            case 6: return SAMPLE_6;
            default: return SAMPLE_7;
        }
    }

    private static void tellWord(StringBuilder out, int word) {
        if (isWord(word)) {
            out.append("bdfklmnrst".charAt(word / 3)).append("aio".charAt(word % 3));
        }
    }

    /** A DOCUMENT, or the DRAFT of one; its row is made once and used again for all that it becomes. */
    private static final class Doc {
        private final int[] words = new int[TITLE_ROOM + BODY_ROOM];
        int titleSize = 0;
        int bodySize = 0;
        int year = 0;
        int kind = 0;
        boolean isThere = false;

        static int roomOf(int field) {
            return field == TITLE ? TITLE_ROOM : BODY_ROOM;
        }

        int sizeOf(int field) {
            return field == TITLE ? titleSize : bodySize;
        }

        int wordAt(int field, int place) {
            if (place < 0 || place >= (field == TITLE ? titleSize : bodySize)) {
                return NONE;
            }
            return words[field == TITLE ? place : TITLE_ROOM + place];
        }

        /** False if the FIELD is full. */
        boolean addWord(int field, int word) {
            if (field == TITLE && titleSize < TITLE_ROOM) {
                words[titleSize] = word;
                titleSize++;
                return true;
            }
            if (field == BODY && bodySize < BODY_ROOM) {
                words[TITLE_ROOM + bodySize] = word;
                bodySize++;
                return true;
            }
            return false;
        }

        void clear() {
            titleSize = 0;
            bodySize = 0;
            year = 0;
            kind = 0;
            isThere = false;
        }

        void takeFrom(Doc other) {
            for (int i = 0; i < words.length; i++) {
                words[i] = other.words[i];
            }
            titleSize = other.titleSize;
            bodySize = other.bodySize;
            year = other.year;
            kind = other.kind;
            isThere = other.isThere;
        }

        boolean isLike(Doc other) {
            if (isThere != other.isThere || year != other.year || kind != other.kind) {
                return false;
            }
            if (titleSize != other.titleSize || bodySize != other.bodySize) {
                return false;
            }
            for (int field = 0; field < FIELDS; field++) {
                for (int i = 0; i < sizeOf(field); i++) {
                    if (wordAt(field, i) != other.wordAt(field, i)) {
                        return false;
                    }
                }
            }
            return true;
        }

        /** The first place from this one on in which the WORD stands; NONE. */
        int placeOf(int field, int word, int from) {
            int start = field == TITLE ? 0 : TITLE_ROOM;
            int size = field == TITLE ? titleSize : bodySize;
            for (int i = Math.max(from, 0); i < size; i++) {
                if (words[start + i] == word) {
                    return i;
                }
            }
            return NONE;
        }

        /** Tells a FIELD; the places whose bits are set stand in brackets. */
        void tellField(StringBuilder out, int field, int lit) {
            for (int i = 0; i < sizeOf(field); i++) {
                boolean isLit = (lit >> i & 1) == 1;
                if (i > 0) {
                    out.append(' ');
                }
                if (isLit) {
                    out.append('[');
                }
                tellWord(out, wordAt(field, i));
                if (isLit) {
                    out.append(']');
                }
            }
        }

        void tell(StringBuilder out) {
            tellField(out, TITLE, 0);
            out.append('/');
            tellField(out, BODY, 0);
            out.append('/').append(year).append('/').append(kind);
        }

        void tellIfThere(StringBuilder out) {
            if (isThere) {
                tell(out);
            } else {
                out.append('-');
            }
        }
    }

    private static final class Request {
        static final int PUT = 0;
        static final int NEW = 1;
        static final int DROP = 2;
        static final int AMEND = 3;
        static final int APPEND = 4;

        final int number;
        final int key;
        final int deed;
        final int value;
        final boolean isOfKind;
        /** What a PUT or a NEW brings; null otherwise. */
        final Doc doc;
        int timesSent = 1;
        int outcome = NONE;
        /** By NODE how often it stands in its LOG: kept up by the LOGS, as counting anew is dear. */
        final int[] timesInLog = new int[NODES];

        Request(int number, int key, int deed, int value, boolean isOfKind, Doc doc) {
            this.number = number;
            this.key = key;
            this.deed = deed;
            this.value = value;
            this.isOfKind = isOfKind;
            this.doc = doc;
        }

        /** An OUTCOME is there from the moment of acknowledging on, never ahead of it. */
        boolean isAcknowledged() {
            return outcome != NONE;
        }

        int countLogs() {
            int logs = 0;
            for (int i = 0; i < NODES; i++) {
                if (timesInLog[i] > 0) {
                    logs++;
                }
            }
            return logs;
        }

        int factOf(int what) {
            switch (what) {
                case 0: return isAcknowledged() ? 2 : 1;
                case 1: return outcome;
                case 2: return key;
                case 3: return deed;
                case 4: return timesSent;
                default: return countLogs();
            }
        }
    }

    /** What stands in LOGS; it never changes, so that all COPIES share it. */
    private static final class Act {
        static final int NOTHING = 0;
        static final int REQUEST = 1;
        static final int JOIN = 2;
        static final int QUIT = 3;

        final int term;
        final int sort;
        /** That of the REQUEST, or the NODE. */
        final int number;
        /** Null but for a REQUEST. */
        final Request request;

        Act(int term, int sort, int number, Request request) {
            this.term = term;
            this.sort = sort;
            this.number = number;
            this.request = request;
        }

        boolean isLike(Act other) {
            return term == other.term && sort == other.sort && number == other.number;
        }

        void tell(StringBuilder out) {
            out.append(term).append(':').append("nrjq".charAt(sort & 3));
            if (sort != NOTHING) {
                out.append(number);
            }
        }
    }

    /** The DOCUMENTS of a COPY, and the greatest number of a REQUEST of each KEY that stood in its LOG so far. */
    private static final class Shelf {
        final Doc[] docs = new Doc[SLOTS];
        private final int[] newest = new int[SLOTS];

        Shelf() {
            for (int i = 0; i < SLOTS; i++) {
                docs[i] = new Doc();
                newest[i] = NONE;
            }
        }

        void clear() {
            for (int i = 0; i < SLOTS; i++) {
                docs[i].clear();
                newest[i] = NONE;
            }
        }

        int countDocs() {
            int many = 0;
            for (int i = 0; i < SLOTS; i++) {
                if (docs[i].isThere) {
                    many++;
                }
            }
            return many;
        }

        boolean isLike(Shelf other) {
            for (int i = 0; i < SLOTS; i++) {
                if (!docs[i].isLike(other.docs[i])) {
                    return false;
                }
            }
            return true;
        }

        /** Does what the REQUEST asks, unless it is LATE; tells the OUTCOME. */
        int perform(Request request) {
            int slot = request.key / SHARDS;
            if (!isWithin(slot, 0, SLOTS - 1)) {
                return 0;
            }
            if (request.number <= newest[slot]) {
                return 2;
            }
            newest[slot] = request.number;
            Doc doc = docs[slot];
            boolean isDone = doc.isThere;
            switch (request.deed) {
                case Request.PUT:
                case Request.NEW:
                    isDone = request.deed == Request.PUT || !doc.isThere;
                    if (isDone && request.doc != null) {
                        doc.takeFrom(request.doc);
                    }
                    break;
                case Request.DROP:
                    doc.clear();
                    break;
                case Request.APPEND:
                    isDone = doc.isThere && doc.addWord(BODY, request.value);
                    break;
                default:
                    if (doc.isThere && request.isOfKind) {
                        doc.kind = request.value;
                    } else if (doc.isThere) {
                        doc.year = request.value;
                    }
                    break;
            }
            return isDone ? 1 : 0;
        }
    }

    /** Which NODES are UP and which LINKS are whole; rows of NODES are the bits of a number. */
    private static final class Net {
        private int upNodes = (1 << NODES) - 1;
        private final int[] wholeLinks = new int[NODES];

        Net() {
            for (int i = 0; i < NODES; i++) {
                wholeLinks[i] = (1 << NODES) - 1 - (1 << i);
            }
        }

        boolean isUp(int node) {
            return (upNodes >> node & 1) == 1;
        }

        void setUp(int node, boolean isUp) {
            upNodes = isUp ? upNodes | 1 << node : upNodes & ~(1 << node);
        }

        boolean isWhole(int a, int b) {
            return (wholeLinks[a] >> b & 1) == 1;
        }

        void setWhole(int a, int b, boolean isWhole) {
            wholeLinks[a] = isWhole ? wholeLinks[a] | 1 << b : wholeLinks[a] & ~(1 << b);
            wholeLinks[b] = isWhole ? wholeLinks[b] | 1 << a : wholeLinks[b] & ~(1 << a);
        }

        boolean canReach(int a, int b) {
            return isUp(a) && isUp(b) && (a == b || isWhole(a, b));
        }

        int countUp() {
            return Integer.bitCount(upNodes);
        }

        int countWhole(int node) {
            return Integer.bitCount(wholeLinks[node]);
        }

        int countCut() {
            int ends = 0;
            for (int i = 0; i < NODES; i++) {
                ends += NODES - 1 - countWhole(i);
            }
            return ends / 2;
        }
    }

    /** What a NODE has of a SHARD. */
    private static final class Copy {
        final int node;
        private final int shard;
        int term = 0;
        int vote = NONE;
        final ArrayList<Act> log = new ArrayList<>();
        int known = 0;
        boolean leads = false;
        int patience = 0;
        /** By its whole LOG; rows of NODES are the bits of a number. */
        int members;
        final int[] notes = new int[NODES];
        final Shelf shelf = new Shelf();
        boolean tookCall = false;
        boolean gaveVote = false;
        boolean isSteady = false;

        Copy(int node, int shard) {
            this.node = node;
            this.shard = shard;
            this.members = firstMembers(shard);
        }

        private static int firstMembers(int shard) {
            return 1 << shard | 1 << (shard + 1) % NODES | 1 << (shard + 2) % NODES;
        }

        boolean hasMember(int other) {
            return (members >> other & 1) == 1;
        }

        boolean isMajority(int nodes) {
            return 2 * Integer.bitCount(nodes & members) > Integer.bitCount(members);
        }

        Act actAt(int place) {
            return isWithin(place, 0, log.size() - 1) ? log.get(place) : null;
        }

        /** The TERM of the ACT in a place; 0 if there is none. */
        int termAt(int place) {
            return place >= 0 && place < log.size() ? log.get(place).term : 0;
        }

        int lastTerm() {
            return termAt(log.size() - 1);
        }

        boolean isBehind(Copy other) {
            if (lastTerm() != other.lastTerm()) {
                return lastTerm() < other.lastTerm();
            }
            return log.size() < other.log.size();
        }

        void add(Act act) {
            if (log.size() >= ACTS_MOST) {
                return;
            }
            log.add(act);
            countMember(act);
            if (act.request != null) {
                act.request.timesInLog[node]++;
            }
        }

        void cutFrom(int place) {
            for (int i = log.size() - 1; i >= Math.max(place, 0); i--) {
                Act act = log.remove(i);
                if (act.request != null) {
                    act.request.timesInLog[node]--;
                }
            }
            members = firstMembers(shard);
            for (int i = 0; i < log.size(); i++) {
                countMember(log.get(i));
            }
        }

        private void countMember(Act act) {
            if (act.sort == Act.JOIN) {
                members |= 1 << act.number;
            } else if (act.sort == Act.QUIT) {
                members &= ~(1 << act.number);
            }
        }

        /** How many ACTS from the beginning on have the same TERMS in both LOGS. */
        int sharedWith(Copy other) {
            int shared = 0;
            int most = Math.min(log.size(), other.log.size());
            while (shared < most && termAt(shared) == other.termAt(shared)) {
                shared++;
            }
            return shared;
        }

        /** More ACTS are KNOWN and done from now on; tells how many REQUESTS are ACKNOWLEDGED by that. */
        int learn(int upTo, boolean isCommit) {
            int acknowledged = 0;
            for (; known < upTo && known < log.size(); known++) {
                Request request = log.get(known).request;
                if (request == null) {
                    continue;
                }
                int outcome = shelf.perform(request);
                // A REQUEST that is not ACKNOWLEDGED was never KNOWN to any NODE, so this is its first place.
                if (isCommit && !request.isAcknowledged()) {
                    request.outcome = outcome;
                    acknowledged++;
                }
            }
            return acknowledged;
        }

        boolean isKnownQuitFrom(int place) {
            for (int i = Math.max(place, 0); i < known && i < log.size(); i++) {
                Act act = log.get(i);
                if (act.sort == Act.QUIT && act.number == node) {
                    return true;
                }
            }
            return false;
        }

        /** TERMS never fall along a LOG, so that the last KNOWN ACT tells for all of them. */
        boolean knowsOwnTerm() {
            return known > 0 && termAt(known - 1) == term;
        }

        /** Whether a JOIN (or a QUIT) of the NODE may be added. */
        boolean canChange(int other, boolean isJoin) {
            if (!knowsOwnTerm() || hasMember(other) == isJoin) {
                return false;
            }
            int many = Integer.bitCount(members);
            if (isJoin ? many >= NODES : many <= 2) {
                return false;
            }
            for (int i = known; i < log.size(); i++) {
                int sort = log.get(i).sort;
                if (sort == Act.JOIN || sort == Act.QUIT) {
                    return false;
                }
            }
            return true;
        }

        /** A TERM that another NODE told is greater than its own. */
        void giveWay(int greater) {
            term = greater;
            vote = NONE;
            leads = false;
        }

        boolean startsLike(Copy other, int many) {
            if (many > log.size() || many > other.log.size()) {
                return false;
            }
            for (int i = 0; i < many; i++) {
                if (!log.get(i).isLike(other.log.get(i))) {
                    return false;
                }
            }
            return true;
        }

        /** Whether doing the KNOWN ACTS anew makes the DOCUMENTS that it has. */
        boolean holdsDocs(Shelf spare) {
            spare.clear();
            for (int i = 0; i < known && i < log.size(); i++) {
                Request request = log.get(i).request;
                if (request != null) {
                    spare.perform(request);
                }
            }
            return spare.isLike(shelf);
        }

        void tellMembers(StringBuilder out) {
            boolean isFirst = true;
            for (int i = 0; i < NODES; i++) {
                if (!hasMember(i)) {
                    continue;
                }
                if (!isFirst) {
                    out.append(' ');
                }
                out.append(i);
                isFirst = false;
            }
        }
    }

    /** The COPIES of a SHARD, and what goes on between them. */
    private static final class Shard {
        private static final int ACTS_A_CALL = 4;
        private static final int LEAST_PATIENCE = 3;

        private final int number;
        private final Net net;
        final Copy[] copies = new Copy[NODES];
        int asked = 0;
        int won = 0;

        Shard(int number, Net net) {
            this.number = number;
            this.net = net;
            for (int i = 0; i < NODES; i++) {
                copies[i] = new Copy(i, number);
            }
        }

        /** Null without one. */
        Copy guideFrom(int door) {
            Copy guide = null;
            for (int i = 0; i < NODES; i++) {
                if (net.canReach(door, i) && copies[i].leads && (guide == null || copies[i].term > guide.term)) {
                    guide = copies[i];
                }
            }
            return guide;
        }

        /** Null if the SHARD is not ANSWERED. */
        Copy answererFrom(int door) {
            for (int i = 0; i < NODES; i++) {
                if (net.canReach(door, i) && canAnswer(copies[i])) {
                    return copies[i];
                }
            }
            return null;
        }

        private boolean canAnswer(Copy copy) {
            if (!net.isUp(copy.node) || !copy.leads || !copy.knowsOwnTerm()) {
                return false;
            }
            int followers = 0;
            for (int i = 0; i < NODES; i++) {
                if (net.canReach(copy.node, i) && copies[i].term <= copy.term) {
                    followers |= 1 << i;
                }
            }
            return copy.isMajority(followers);
        }

        /** One BEAT; tells how many REQUESTS were ACKNOWLEDGED in it. */
        int runBeat() {
            for (int i = 0; i < NODES; i++) {
                copies[i].tookCall = false;
                copies[i].gaveVote = false;
                copies[i].isSteady = false;
            }
            int acknowledged = 0;
            for (int i = 0; i < NODES; i++) {
                if (net.isUp(i) && copies[i].leads) {
                    acknowledged += callAll(copies[i]);
                }
            }
            for (int i = 0; i < NODES; i++) {
                if (net.isUp(i) && !copies[i].leads && copies[i].hasMember(i)) {
                    holdOut(copies[i]);
                }
            }
            return acknowledged;
        }

        private int callAll(Copy caller) {
            int takers = 1 << caller.node;
            for (int i = 0; i < NODES; i++) {
                if (i == caller.node || !caller.hasMember(i) || !net.canReach(caller.node, i)) {
                    continue;
                }
                if (copies[i].term > caller.term) {
                    caller.giveWay(copies[i].term);
                    return 0;
                }
                call(caller, copies[i]);
                takers |= 1 << i;
            }
            int acknowledged = commit(caller);
            if (caller.leads && caller.isMajority(takers)) {
                caller.isSteady = true;
            }
            return acknowledged;
        }

        private static void call(Copy caller, Copy called) {
            if (called.term < caller.term) {
                called.giveWay(caller.term);
            }
            called.leads = false;
            called.patience = 0;
            called.tookCall = true;
            called.isSteady = true;
            int shared = called.sharedWith(caller);
            if (called.log.size() > shared && caller.log.size() > shared) {
                called.cutFrom(shared);
            }
            int has = shared;
            if (called.log.size() == shared) {
                int end = Math.min(shared + ACTS_A_CALL, caller.log.size());
                for (; has < end; has++) {
                    called.add(caller.log.get(has));
                }
            }
            caller.notes[called.node] = Math.max(caller.notes[called.node], has);
            called.learn(Math.min(caller.known, has), false);
        }

        private static int commit(Copy leader) {
            int before = leader.known;
            int acknowledged = 0;
            for (int i = leader.log.size(); i > before; i--) {
                if (leader.termAt(i - 1) == leader.term && leader.isMajority(havers(leader, i))) {
                    acknowledged = leader.learn(i, true);
                    break;
                }
            }
            if (leader.isKnownQuitFrom(before)) {
                leader.leads = false;
            }
            return acknowledged;
        }

        private static int havers(Copy leader, int many) {
            int nodes = 1 << leader.node;
            for (int i = 0; i < NODES; i++) {
                if (leader.notes[i] >= many) {
                    nodes |= 1 << i;
                }
            }
            return nodes;
        }

        private void holdOut(Copy copy) {
            if (copy.tookCall || copy.gaveVote) {
                return;
            }
            copy.patience++;
            if (copy.patience >= LEAST_PATIENCE + (copy.node + 2 * number) % NODES) {
                askForVotes(copy);
            }
        }

        private void askForVotes(Copy asker) {
            asked++;
            asker.term++;
            asker.vote = asker.node;
            asker.patience = 0;
            int voters = 1 << asker.node;
            for (int i = 0; i < NODES; i++) {
                Copy voter = copies[i];
                if (i == asker.node || !asker.hasMember(i) || !net.canReach(asker.node, i) || voter.isSteady) {
                    continue;
                }
                if (voter.term > asker.term) {
                    asker.giveWay(voter.term);
                    return;
                }
                if (voter.term < asker.term) {
                    voter.giveWay(asker.term);
                }
                if (voter.vote == NONE && !asker.isBehind(voter)) {
                    voter.vote = asker.node;
                    voter.patience = 0;
                    voter.gaveVote = true;
                    voters |= 1 << i;
                }
            }
            if (asker.isMajority(voters)) {
                win(asker);
            }
        }

        private void win(Copy winner) {
            won++;
            winner.leads = true;
            for (int i = 0; i < NODES; i++) {
                winner.notes[i] = 0;
            }
            winner.add(new Act(winner.term, Act.NOTHING, NONE, null));
        }

        /** What asking now would bring if nobody were STEADY; NONE of one that does not ask. */
        int foreseeVotes(Copy asker) {
            if (!net.isUp(asker.node) || asker.leads || !asker.hasMember(asker.node)) {
                return NONE;
            }
            int term = asker.term + 1;
            int many = 1;
            for (int i = 0; i < NODES; i++) {
                Copy voter = copies[i];
                if (i == asker.node || !asker.hasMember(i) || !net.canReach(asker.node, i)) {
                    continue;
                }
                if (voter.term > term) {
                    return many;
                }
                boolean isFree = voter.term < term || voter.vote == NONE;
                if (isFree && !asker.isBehind(voter)) {
                    many++;
                }
            }
            return many;
        }

        int factOf(Copy copy, int what) {
            switch (what) {
                case 0: return copy.leads ? 1 : 0;
                case 1: return copy.term;
                case 2: return copy.vote;
                case 3: return copy.log.size();
                case 4: return copy.known;
                case 5: return copy.patience;
                case 6: return copy.lastTerm();
                case 7: return copy.shelf.countDocs();
                case 8: return copy.hasMember(copy.node) ? 1 : 0;
                case 9: return Integer.bitCount(copy.members);
                default: return canAnswer(copy) ? 1 : 0;
            }
        }

        boolean holds(Shelf spare) {
            for (int i = 0; i < NODES; i++) {
                if (!copies[i].holdsDocs(spare)) {
                    return false;
                }
                for (int j = 0; j < NODES; j++) {
                    if (i != j && !holdsBetween(copies[i], copies[j])) {
                        return false;
                    }
                }
            }
            return true;
        }

        private boolean holdsBetween(Copy a, Copy b) {
            if (a.leads && b.leads && a.term == b.term) {
                return false;
            }
            int place = Math.min(a.log.size(), b.log.size()) - 1;
            while (place > 0 && a.termAt(place) != b.termAt(place)) {
                place--;
            }
            if (place > 0 && !a.startsLike(b, place)) {
                return false;
            }
            if (!a.startsLike(b, Math.min(a.known, b.known))) {
                return false;
            }
            return !canAnswer(a) || a.startsLike(b, b.known);
        }
    }

    /** A UNIT of a QUESTION with its PART: what stands at a place of the form. */
    private static final class Part {
        static final int WORDS_OF_PREFIX = 3;
        static final int PHRASE_MOST = 6;
        static final int IS_BRACKET = 0;
        static final int IS_WORD = 1;
        static final int IS_PREFIX = 2;
        static final int IS_PHRASE = 3;
        static final int IS_YEAR = 4;
        static final int IS_KIND = 5;

        int sort;
        /** How many brackets are open around it. */
        int level;
        boolean startsAnd;
        boolean isNot;
        boolean isDenied;
        int boost;
        /** A bit for each FIELD. */
        int fields;
        int firstLeaf;
        int leafCount;
        /** The WORD, or the first one of a PREFIX. */
        int first;
        final int[] phrase = new int[PHRASE_MOST];
        int phraseSize;
        int near;
        int from;
        int to;

        /** Begins anew, with what the bracket (null: none) gives on. */
        void begin(Part bracket, boolean isFirstOfAnd) {
            sort = IS_BRACKET;
            level = bracket == null ? 0 : bracket.level + 1;
            startsAnd = isFirstOfAnd;
            isNot = false;
            isDenied = bracket != null && bracket.isDenied;
            boost = bracket == null ? 1 : bracket.boost;
            fields = bracket == null ? (1 << FIELDS) - 1 : bracket.fields;
            leafCount = 0;
            near = 0;
        }

        void set(int newSort, int newFirst, int leaves) {
            sort = newSort;
            first = newFirst;
            leafCount = leaves;
        }

        boolean looksAt(int field) {
            return (fields >> field & 1) == 1;
        }
    }

    /** A row of TOKENS and what it means. */
    private static final class Question {
        private static final int BRACKETS_MOST = 2;

        private final int[] tokens = new int[TOKENS_MOST];
        int size = 0;
        int error = 0;
        private final ArrayList<Part> parts = new ArrayList<>();
        int partCount = 0;
        private int leafCount = 0;
        /** The place of the next TOKEN that is read; where reading stops, that is the ERROR. */
        private int cursor = 0;

        void addTokens(int[] more, int many) {
            for (int i = 0; i < many && i < more.length && size < TOKENS_MOST; i++) {
                tokens[size] = more[i];
                size++;
            }
            read();
        }

        void cutTo(int many) {
            size = Math.max(0, Math.min(size, many));
            read();
        }

        int countLeaves() {
            return error == NONE ? leafCount : NONE;
        }

        int tokenAt(int place) {
            return isWithin(place, 0, size - 1) ? tokens[place] : NONE;
        }

        /** Null outside; the PARTS stand in the order of their first TOKENS. */
        Part partAt(int place) {
            return isWithin(place, 0, Math.min(partCount, parts.size()) - 1) ? parts.get(place) : null;
        }

        private void read() {
            partCount = 0;
            leafCount = 0;
            cursor = 0;
            boolean isWhole = readOr(null);
            error = isWhole && cursor == size ? NONE : cursor;
        }

        private boolean readOr(Part bracket) {
            for (int i = 0; i < TOKENS_MOST; i++) {
                if (!readAnd(bracket)) {
                    return false;
                }
                if (!takes(OR)) {
                    return true;
                }
            }
            return false;
        }

        private boolean readAnd(Part bracket) {
            for (int i = 0; i < TOKENS_MOST; i++) {
                if (!readUnit(bracket, i == 0)) {
                    return false;
                }
                if (!takes(AND)) {
                    return true;
                }
            }
            return false;
        }

        private boolean readUnit(Part bracket, boolean startsAnd) {
            Part part = nextPart();
            part.begin(bracket, startsAnd);
            if (takes(NOT)) {
                part.isNot = true;
                part.isDenied = true;
            }
            if (takes(BOOST)) {
                int boost = takeNumber(1, 9);
                if (boost == NONE) {
                    return false;
                }
                part.boost *= boost;
            }
            if (takes(IN_TITLE)) {
                part.fields = 1;
            } else if (takes(IN_BODY)) {
                part.fields = 2;
            }
            part.firstLeaf = leafCount;
            boolean isWhole = readPart(part);
            leafCount += part.leafCount;
            return isWhole;
        }

        private boolean readPart(Part part) {
            int token = tokenAt(cursor);
            if (isWord(token)) {
                cursor++;
                part.set(Part.IS_WORD, token, 1);
                return true;
            }
            if (isWithin(token, WORDS, PREFIXES_END - 1)) {
                cursor++;
                part.set(Part.IS_PREFIX, (token - WORDS) * Part.WORDS_OF_PREFIX, Part.WORDS_OF_PREFIX);
                return true;
            }
            if (takes(QUOTE)) {
                return readPhrase(part);
            }
            if (takes(YEAR)) {
                return readYears(part);
            }
            if (takes(KIND)) {
                part.set(Part.IS_KIND, 0, 0);
                part.from = takeNumber(0, KINDS - 1);
                return part.from != NONE;
            }
            if (part.level >= BRACKETS_MOST || !takes(OPEN)) {
                return false;
            }
            return readOr(part) && takes(CLOSE);
        }

        private boolean readPhrase(Part part) {
            part.set(Part.IS_PHRASE, NONE, 1);
            int many = 0;
            while (many < Part.PHRASE_MOST && isWord(tokenAt(cursor))) {
                part.phrase[many] = tokenAt(cursor);
                cursor++;
                many++;
            }
            part.phraseSize = many;
            if (many == 0 || !takes(QUOTE)) {
                return false;
            }
            if (takes(NEAR)) {
                int near = takeNumber(0, 9);
                part.near = near;
                return near != NONE;
            }
            return true;
        }

        private boolean readYears(Part part) {
            part.set(Part.IS_YEAR, 0, 0);
            part.from = takeNumber(0, YEARS - 1);
            part.to = part.from;
            if (part.from == NONE) {
                return false;
            }
            if (takes(DOTS)) {
                part.to = takeNumber(0, YEARS - 1);
            }
            return part.to != NONE;
        }

        private boolean takes(int token) {
            if (tokenAt(cursor) != token) {
                return false;
            }
            cursor++;
            return true;
        }

        /** The next TOKEN's NUMBER, if it is within these; NONE otherwise. */
        private int takeNumber(int least, int most) {
            int number = tokenAt(cursor) - NUMBERS;
            if (!isWithin(number, least, most)) {
                return NONE;
            }
            cursor++;
            return number;
        }

        private Part nextPart() {
            if (partCount >= parts.size()) {
                parts.add(new Part());
                partCount = parts.size() - 1;
            }
            partCount++;
            return parts.get(partCount - 1);
        }

        void tell(StringBuilder out) {
            for (int i = 0; i < size; i++) {
                if (i > 0) {
                    out.append(' ');
                }
                tellToken(out, tokens[i]);
            }
        }

        private static void tellToken(StringBuilder out, int token) {
            if (token >= NUMBERS) {
                out.append(token - NUMBERS);
            } else if (isWord(token)) {
                tellWord(out, token);
            } else if (isWithin(token, WORDS, PREFIXES_END - 1)) {
                out.append("bdfklmnrst".charAt(token - WORDS)).append('*');
            } else {
                out.append(signOf(token));
            }
        }

        private static String signOf(int token) {
            switch (token) {
                case OPEN: return "(";
                case CLOSE: return ")";
                case AND: return "and";
                case OR: return "or";
                case NOT: return "not";
                case QUOTE: return "\"";
                case IN_TITLE: return "title:";
                case IN_BODY: return "body:";
                case YEAR: return "year:";
                case KIND: return "kind:";
                case DOTS: return "..";
                case BOOST: return "^";
                default: return "~";
            }
        }
    }

    /**
     * An exact number from 0 on, as a multiple of 1 / WHOLE. Each denominator of a SCORE is (D + 1) * (c + l), with
     * D + 1 at most 49 and c + l at most 32, so that it divides the least common multiple of 1 to 49 times that of
     * 1 to 32: that is WHOLE, and all SCORES are such multiples. The greatest one has 43 digits.
     */
    private static final class Score {
        private static final int BASE = 1000000000;
        private static final int LIMBS = 6;
        private static final int[] WHOLE = {639040000, 178683789, 988507175, 447513036, 0, 0};
        private static final int[] PRIMES = {2, 3, 5, 7, 11, 13, 17, 19, 23, 29, 31, 37, 41, 43, 47};
        /** No prime divides WHOLE more often. */
        private static final int DIVISIONS_MOST = 10;

        /** To the base BASE, the lowest first. */
        private final int[] limbs = new int[LIMBS];

        void clear() {
            for (int i = 0; i < LIMBS; i++) {
                limbs[i] = 0;
            }
        }

        void setToOne() {
            for (int i = 0; i < LIMBS; i++) {
                limbs[i] = WHOLE[i];
            }
        }

        void setTo(Score other) {
            for (int i = 0; i < LIMBS; i++) {
                limbs[i] = other.limbs[i];
            }
        }

        void plus(Score other) {
            int carry = 0;
            for (int i = 0; i < LIMBS; i++) {
                int sum = limbs[i] + other.limbs[i] + carry;
                carry = sum >= BASE ? 1 : 0;
                limbs[i] = sum - carry * BASE;
            }
        }

        void times(int factor) {
            long carry = 0;
            for (int i = 0; i < LIMBS; i++) {
                long product = (long) limbs[i] * factor + carry;
                limbs[i] = (int) (product % BASE);
                carry = product / BASE;
            }
        }

        /** Divides by a number of which it is a multiple. */
        void over(int divisor) {
            if (divisor <= 0) {
                return;
            }
            long rest = 0;
            for (int i = LIMBS - 1; i >= 0; i--) {
                long part = rest * BASE + limbs[i];
                limbs[i] = (int) (part / divisor);
                rest = part % divisor;
            }
        }

        private boolean isMultipleOf(int divisor) {
            if (divisor <= 0) {
                return false;
            }
            long rest = 0;
            for (int i = LIMBS - 1; i >= 0; i--) {
                rest = (rest * BASE + limbs[i]) % divisor;
            }
            return rest == 0;
        }

        int compareWith(Score other) {
            for (int i = LIMBS - 1; i >= 0; i--) {
                if (limbs[i] != other.limbs[i]) {
                    return limbs[i] < other.limbs[i] ? -1 : 1;
                }
            }
            return 0;
        }

        /** Brings it over a denominator, which starts as WHOLE, to lowest terms. */
        void reduceOver(Score denominator) {
            denominator.setToOne();
            for (int prime : PRIMES) {
                for (int i = 0; i < DIVISIONS_MOST; i++) {
                    if (isMultipleOf(prime) && denominator.isMultipleOf(prime)) {
                        over(prime);
                        denominator.over(prime);
                    }
                }
            }
        }

        private int topLimb() {
            int top = LIMBS - 1;
            while (top > 0 && limbs[top] == 0) {
                top--;
            }
            return top;
        }

        boolean isJustOne() {
            return topLimb() == 0 && limbs[0] == 1;
        }

        void tellDigits(StringBuilder out) {
            int top = topLimb();
            out.append(limbs[top]);
            for (int i = top - 1; i >= 0; i--) {
                for (int scale = BASE / 10; scale > 0; scale /= 10) {
                    out.append((char) ('0' + limbs[i] / scale % 10));
                }
            }
        }
    }

    /** Answers QUESTIONS from the DOCUMENTS that are laid before it; all its rows are used again. */
    private static final class Finder {
        static final int BY_SHARD = 0;
        static final int BY_KIND = 1;
        static final int BY_DECADE = 2;
        /** 60 TOKENS hold 30 PREFIXES at most, of three LEAVES each, with what must stand between. */
        private static final int LEAVES_MOST = 90;
        private static final int LEVELS = 3;

        /** By KEY; null till something is laid before it. */
        private final Doc[] docs = new Doc[KEYS];
        int docCount = 0;
        /** D, by LEAF and FIELD. */
        private final int[] found = new int[LEAVES_MOST * FIELDS];
        /** COUNT, by LEAF and FIELD, in the DOCUMENT that is weighed. */
        private final int[] counts = new int[LEAVES_MOST * FIELDS];
        private final Score[] scores = new Score[KEYS];
        private final int[] hits = new int[KEYS];
        int hitCount = 0;
        private final int[] tally = new int[WORDS];
        /** How often each WORD stands in each FIELD of the DOCUMENT that is weighed: dear to count LEAF by LEAF. */
        private final int[] wordTimes = new int[WORDS * FIELDS];
        /** By level: what the ANDs and the OR that are being weighed there come to. */
        private final boolean[] andMatches = new boolean[LEVELS];
        private final boolean[] orMatches = new boolean[LEVELS];
        private final Score[] andScores = new Score[LEVELS];
        private final Score[] orScores = new Score[LEVELS];
        private final Score share = new Score();
        private final Score term = new Score();

        Finder() {
            for (int i = 0; i < KEYS; i++) {
                scores[i] = new Score();
            }
            for (int i = 0; i < LEVELS; i++) {
                andScores[i] = new Score();
                orScores[i] = new Score();
            }
        }

        void look(int shard, Shelf shelf) {
            for (int key = shard; key < KEYS; key += SHARDS) {
                docs[key] = shelf.docs[key / SHARDS];
            }
        }

        private boolean isThere(int key) {
            return docs[key] != null && docs[key].isThere;
        }

        void countDocs() {
            docCount = 0;
            for (int key = 0; key < KEYS; key++) {
                if (isThere(key)) {
                    docCount++;
                }
            }
        }

        int foundOf(int leaf, int field) {
            int at = leaf * FIELDS + field;
            return at >= 0 && at < found.length ? found[at] : 0;
        }

        void countFound(Question question) {
            for (int i = 0; i < found.length; i++) {
                found[i] = 0;
            }
            for (int key = 0; key < KEYS; key++) {
                if (!isThere(key)) {
                    continue;
                }
                countLeaves(question, docs[key]);
                for (int i = 0; i < found.length; i++) {
                    if (counts[i] > 0) {
                        found[i]++;
                    }
                }
            }
        }

        /** Behind countFound() of the same QUESTION, as each D is part of the SCORES. */
        void findHits(Question question) {
            hitCount = 0;
            for (int key = 0; key < KEYS; key++) {
                if (!isThere(key)) {
                    continue;
                }
                countLeaves(question, docs[key]);
                if (weigh(question, docs[key], true)) {
                    scores[key].setTo(orScores[0]);
                    addHit(key);
                }
            }
        }

        int countMatches(Question question) {
            int many = 0;
            for (int key = 0; key < KEYS; key++) {
                if (isMatch(question, key)) {
                    many++;
                }
            }
            return many;
        }

        private boolean isMatch(Question question, int key) {
            if (!isThere(key)) {
                return false;
            }
            countLeaves(question, docs[key]);
            return weigh(question, docs[key], false);
        }

        /** KEYS come rising, so that one goes behind those of a like SCORE. */
        private void addHit(int key) {
            int place = hitCount;
            while (place > 0 && scores[hits[place - 1]].compareWith(scores[key]) < 0) {
                hits[place] = hits[place - 1];
                place--;
            }
            hits[place] = key;
            hitCount++;
        }

        /** Whether the HITS are those that match, each once, in their order. */
        boolean holds(Question question) {
            for (int i = 1; i < hitCount; i++) {
                int order = scores[hits[i - 1]].compareWith(scores[hits[i]]);
                if (order < 0 || (order == 0 && hits[i - 1] >= hits[i])) {
                    return false;
                }
            }
            for (int key = 0; key < KEYS; key++) {
                if (isMatch(question, key) != (placeOf(key) != NONE)) {
                    return false;
                }
            }
            return true;
        }

        int placeOf(int key) {
            for (int i = 0; i < hitCount; i++) {
                if (hits[i] == key) {
                    return i;
                }
            }
            return NONE;
        }

        private void countWords(Doc doc) {
            for (int i = 0; i < wordTimes.length; i++) {
                wordTimes[i] = 0;
            }
            for (int field = 0; field < FIELDS; field++) {
                for (int i = 0; i < doc.sizeOf(field); i++) {
                    int at = doc.wordAt(field, i) * FIELDS + field;
                    if (at >= 0 && at < wordTimes.length) {
                        wordTimes[at]++;
                    }
                }
            }
        }

        private int timesOf(int word, int field) {
            int at = word * FIELDS + field;
            return at >= 0 && at < wordTimes.length ? wordTimes[at] : 0;
        }

        private void countLeaves(Question question, Doc doc) {
            countWords(doc);
            for (int i = 0; i < counts.length; i++) {
                counts[i] = 0;
            }
            for (int i = 0; i < question.partCount; i++) {
                Part part = question.partAt(i);
                if (part == null) {
                    continue;
                }
                for (int j = 0; j < part.leafCount; j++) {
                    int at = (part.firstLeaf + j) * FIELDS;
                    for (int field = 0; field < FIELDS && at + field < counts.length; field++) {
                        counts[at + field] = part.sort == Part.IS_PHRASE
                                ? countPhrase(part, doc, field)
                                : timesOf(part.first + j, field);
                    }
                }
            }
        }

        private static int countPhrase(Part part, Doc doc, int field) {
            int many = 0;
            for (int from = 0; from < doc.sizeOf(field); from++) {
                if (phraseFrom(part, doc, field, from) != 0) {
                    many++;
                }
            }
            return many;
        }

        /** The places (as bits) of the WORDS of the PHRASE that is counted in this one; 0 if it is not. */
        private static int phraseFrom(Part part, Doc doc, int field, int from) {
            if (doc.wordAt(field, from) != part.phrase[0]) {
                return 0;
            }
            int place = from;
            int places = 1 << from;
            for (int i = 1; i < part.phraseSize && i < part.phrase.length; i++) {
                place = doc.placeOf(field, part.phrase[i], place + 1);
                if (place == NONE) {
                    return 0;
                }
                places |= 1 << place;
            }
            return place - from <= part.phraseSize - 1 + part.near ? places : 0;
        }

        /**
         * Whether the DOCUMENT whose LEAVES are counted matches; its SCORE is in the lowest level of the ORs then. The
         * PARTS are gone through from the last one back: what a bracket holds stands behind it, and is thus summed up
         * as the bracket is come to.
         */
        private boolean weigh(Question question, Doc doc, boolean isScored) {
            for (int i = 0; i < LEVELS; i++) {
                clearOr(i);
            }
            for (int i = question.partCount - 1; i >= 0; i--) {
                Part part = question.partAt(i);
                if (part != null && isWithin(part.level, 0, LEVELS - 1)) {
                    weighPart(part, doc, isScored);
                }
            }
            return orMatches[0];
        }

        private void weighPart(Part part, Doc doc, boolean isScored) {
            boolean matches;
            share.clear();
            if (part.sort == Part.IS_BRACKET) {
                int inner = Math.min(part.level + 1, LEVELS - 1);
                matches = orMatches[inner];
                share.setTo(orScores[inner]);
                clearOr(inner);
            } else {
                matches = matchesPart(part, doc);
                // A UNIT with "not" has the SCORE 0, so that nothing in its bracket counts either.
                if (matches && isScored && !part.isDenied) {
                    addShare(part, doc);
                }
            }
            andMatches[part.level] &= matches != part.isNot;
            andScores[part.level].plus(share);
            if (part.startsAnd) {
                endAnd(part.level);
            }
        }

        private void endAnd(int level) {
            if (andMatches[level]) {
                orMatches[level] = true;
                orScores[level].plus(andScores[level]);
            }
            andMatches[level] = true;
            andScores[level].clear();
        }

        private void clearOr(int level) {
            orMatches[level] = false;
            orScores[level].clear();
            andMatches[level] = true;
            andScores[level].clear();
        }

        private boolean matchesPart(Part part, Doc doc) {
            if (part.sort == Part.IS_YEAR) {
                return isWithin(doc.year, part.from, part.to);
            }
            if (part.sort == Part.IS_KIND) {
                return doc.kind == part.from;
            }
            for (int j = 0; j < part.leafCount; j++) {
                for (int field = 0; field < FIELDS; field++) {
                    if (part.looksAt(field) && countOf(part.firstLeaf + j, field) > 0) {
                        return true;
                    }
                }
            }
            return false;
        }

        private int countOf(int leaf, int field) {
            int at = leaf * FIELDS + field;
            return at >= 0 && at < counts.length ? counts[at] : 0;
        }

        private void addShare(Part part, Doc doc) {
            for (int j = 0; j < part.leafCount; j++) {
                for (int field = 0; field < FIELDS; field++) {
                    int leaf = part.firstLeaf + j;
                    int count = countOf(leaf, field);
                    if (count == 0 || !part.looksAt(field)) {
                        continue;
                    }
                    int weight = field == TITLE ? 2 : 1;
                    term.setToOne();
                    term.times(part.boost * weight * (docCount + 1) * count);
                    term.over((foundOf(leaf, field) + 1) * (count + doc.sizeOf(field)));
                    share.plus(term);
                }
            }
        }

        void tellHits(StringBuilder out, int from, int many) {
            for (int i = from; i >= 0 && i < hitCount && i - from < many; i++) {
                if (i > from) {
                    out.append(' ');
                }
                out.append(hits[i]).append(':');
                tellScore(out, hits[i]);
            }
        }

        void tellScore(StringBuilder out, int key) {
            // What a question is weighed with is free by now: it holds the numerator and the denominator.
            share.setTo(scores[key]);
            share.reduceOver(term);
            share.tellDigits(out);
            if (!term.isJustOne()) {
                out.append('/');
                term.tellDigits(out);
            }
        }

        void tellTally(StringBuilder out, int by, int many) {
            clearTally();
            for (int i = 0; i < hitCount; i++) {
                Doc doc = docs[hits[i]];
                if (doc == null) {
                    continue;
                }
                int at = by == BY_SHARD ? hits[i] % SHARDS : by == BY_KIND ? doc.kind : doc.year / 10;
                if (isWithin(at, 0, tally.length - 1)) {
                    tally[at]++;
                }
            }
            for (int i = 0; i < many && i < tally.length; i++) {
                if (i > 0) {
                    out.append(' ');
                }
                out.append(tally[i]);
            }
        }

        private void clearTally() {
            for (int i = 0; i < tally.length; i++) {
                tally[i] = 0;
            }
        }

        void tellCommon(StringBuilder out, int field, int most) {
            clearTally();
            for (int key = 0; key < KEYS; key++) {
                if (!isThere(key)) {
                    continue;
                }
                countWords(docs[key]);
                for (int word = 0; word < WORDS; word++) {
                    if (timesOf(word, field) > 0) {
                        tally[word]++;
                    }
                }
            }
            for (int i = 0; i < most; i++) {
                int best = 0;
                for (int word = 1; word < WORDS; word++) {
                    if (tally[word] > tally[best]) {
                        best = word;
                    }
                }
                if (tally[best] == 0) {
                    return;
                }
                if (i > 0) {
                    out.append(' ');
                }
                tellWord(out, best);
                out.append(':').append(tally[best]);
                tally[best] = 0;
            }
        }

        void tellLight(StringBuilder out, Question question, int key) {
            Doc doc = docs[key];
            if (doc == null) {
                return;
            }
            doc.tellField(out, TITLE, litPlaces(question, doc, TITLE));
            out.append('/');
            doc.tellField(out, BODY, litPlaces(question, doc, BODY));
        }

        /** The places of the FIELD that are LIT, as bits. */
        private static int litPlaces(Question question, Doc doc, int field) {
            int lit = 0;
            for (int i = 0; i < question.partCount; i++) {
                Part part = question.partAt(i);
                if (part != null && !part.isDenied && part.looksAt(field)) {
                    lit |= litByPart(part, doc, field);
                }
            }
            return lit;
        }

        private static int litByPart(Part part, Doc doc, int field) {
            int lit = 0;
            for (int place = 0; place < doc.sizeOf(field); place++) {
                if (part.sort == Part.IS_PHRASE) {
                    lit |= phraseFrom(part, doc, field, place);
                } else if (isWithin(doc.wordAt(field, place) - part.first, 0, part.leafCount - 1)) {
                    lit |= 1 << place;
                }
            }
            return lit;
        }
    }
}
