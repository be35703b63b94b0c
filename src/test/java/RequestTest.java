/** Promises 6 to 11: requests, sent and sent again. */
public final class RequestTest {
    private static final Check CHECK = new Check("RequestTest");

    public static void main(String[] args) {
        withoutGuide();
        putAndNew();
        dropAmendAppend();
        sentAgain();
        late();
        CHECK.end();
    }

    private static void withoutGuide() {
        Searchcluster x = new Searchcluster();
        CHECK.is("put", x.put(0, false), -9);
        CHECK.is("new", x.put(47, true), -9);
        CHECK.is("drop", x.drop(1), -9);
        CHECK.is("amend", x.amend(2, true, 5), -9);
        CHECK.is("append", x.append(3, 29), -9);
        x.settle(30);
        CHECK.is("put", x.put(0, false), 0);
        x.fall(0);
        CHECK.is("put with the door down", x.put(1, false), -9);
        CHECK.is("again with the door down", x.again(0), -9);
    }

    private static void putAndNew() {
        Searchcluster x = Check.settled();
        Check.draft(x, "ba", "di di", 7, 3);
        CHECK.is("put", x.put(5, false), 0);
        x.erase();
        CHECK.is("new on one that waits", x.put(5, true), 1);
        CHECK.is("new where none is", x.put(8, true), 2);
        CHECK.is("waiting", x.ofRequest(0, 0), 1);
        CHECK.is("no outcome yet", x.ofRequest(0, 1), -1);
        CHECK.is("key", x.ofRequest(2, 2), 8);
        CHECK.is("put is 0", x.ofRequest(0, 3), 0);
        CHECK.is("new is 1", x.ofRequest(1, 3), 1);
        CHECK.is("sent", x.ofRequest(0, 4), 1);
        CHECK.is("in the log of the guide", x.ofRequest(0, 5), 1);
        CHECK.is("none yet", x.document(5), "-");
        CHECK.is("acknowledged", x.beat(1), 3);
        CHECK.is("in three logs", x.ofRequest(0, 5), 3);
        CHECK.is("acknowledged", x.ofRequest(0, 0), 2);
        CHECK.is("put did", x.ofRequest(0, 1), 1);
        CHECK.is("new did not", x.ofRequest(1, 1), 0);
        CHECK.is("new did", x.ofRequest(2, 1), 1);
        CHECK.is("as the draft was", x.document(5), "ba/di di/7/3");
        CHECK.is("the empty draft", x.document(8), "//0/0");
        CHECK.is("put upon one", x.put(5, false), 3);
        x.beat(1);
        CHECK.is("put always does", x.ofRequest(3, 1), 1);
        CHECK.is("the other one", x.document(5), "//0/0");
    }

    private static void dropAmendAppend() {
        Searchcluster x = Check.settled();
        CHECK.is("drop of none", x.drop(0), 0);
        CHECK.is("amend of none", x.amend(0, false, 5), 1);
        CHECK.is("append to none", x.append(0, 5), 2);
        Check.draft(x, "", "ba ba ba ba ba ba ba ba ba ba ba ba ba ba ba", 9, 2);
        x.put(0, false);
        x.amend(0, false, 9);
        x.amend(0, true, 5);
        x.append(0, 29);
        x.append(0, 28);
        CHECK.is("the first four", x.beat(1), 4);
        CHECK.is("the others", x.beat(10), 4);
        int[] outcomes = {0, 0, 0, 1, 1, 1, 1, 0};
        int[] deeds = {2, 3, 4, 0, 3, 3, 4, 4};
        for (int i = 0; i < outcomes.length; i++) {
            CHECK.is("outcome of " + i, x.ofRequest(i, 1), outcomes[i]);
            CHECK.is("deed of " + i, x.ofRequest(i, 3), deeds[i]);
        }
        CHECK.is("document", x.document(0), "/ba ba ba ba ba ba ba ba ba ba ba ba ba ba ba to/9/5");
        x.amend(0, false, 99);
        x.beat(1);
        CHECK.is("amended", x.document(0), "/ba ba ba ba ba ba ba ba ba ba ba ba ba ba ba to/99/5");
        x.drop(0);
        x.beat(1);
        CHECK.is("drop did", x.ofRequest(9, 1), 1);
        CHECK.is("gone", x.document(0), "-");
    }

    private static void sentAgain() {
        Searchcluster x = Check.settled();
        x.put(3, false);
        CHECK.is("sent twice", x.again(0), 2);
        CHECK.is("sent thrice", x.again(0), 3);
        CHECK.is("told", x.ofRequest(0, 4), 3);
        CHECK.is("in one log, if thrice", x.ofRequest(0, 5), 1);
        CHECK.is("acts", x.ofCopy(0, 0, 3), 4);
        CHECK.is("acknowledged once", x.beat(1), 1);
        CHECK.is("by its first place", x.ofRequest(0, 1), 1);
        CHECK.is("again", x.again(0), -9);
        // What is sent again has the term of the guide that adds it then.
        x.append(3, 1);
        x.append(3, 2);
        x.fall(0);
        x.door(1);
        x.settle(30);
        CHECK.is("in the log of one that is down", x.ofRequest(1, 5), 1);
        CHECK.is("again", x.again(2), 2);
        CHECK.is("act", x.act(1, 0, x.ofCopy(1, 0, 3) - 1), "2:r2");
        x.beat(1);
        CHECK.is("again, late", x.again(1), 2);
        x.beat(1);
        CHECK.is("late", x.ofRequest(1, 1), 2);
        CHECK.is("not late", x.ofRequest(2, 1), 1);
        CHECK.is("document", x.document(3), "/bo/0/0");
    }

    /** Only requests of the same key make a request late. */
    private static void late() {
        Searchcluster x = Check.settled();
        x.put(0, false);
        x.beat(1);
        x.append(0, 10);
        x.put(6, false);
        x.fall(0);
        x.door(2);
        x.settle(30);
        x.put(3, false);
        x.beat(1);
        CHECK.is("again", x.again(1), 2);
        CHECK.is("again", x.again(2), 2);
        CHECK.is("acknowledged", x.beat(1), 2);
        CHECK.is("not late", x.ofRequest(1, 1), 1);
        CHECK.is("not late", x.ofRequest(2, 1), 1);
        CHECK.is("document", x.document(0), "/ki/0/0");
    }
}
