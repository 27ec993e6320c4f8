/** Boundary cases of promises 28 to 32 and of KINDS and ASKS, a test for each sentence. */
public final class AskedEdgesTest {
    private static final String SORTS = "bwsfd";
    private static final int SIZE = 0, MARK = 1;
    /** Persons 0 to 4 are waiters, 5 to 9 passers of the same sorts. */
    private static final String ALL = "q2,0;b30,1;w30,2;s30,3;f30,0;d30,1;pb30,0,9;pw30,3,9;ps30,0,9;pf30,0,9;pd30,3,9;";
    private static final String FULL_HOUSE = "q0,0;" + "b9,0;".repeat(8) + "pd9,0,0;".repeat(8);

    public static void main(String[] args) {
        kindNumbers();
        kindAsTold();
        asNumbers();
        asTheNumber();
        asOfEachKind();
        askNumbers();
        askAtFirst();
        sizeLent();
        sizeOfEachKind();
        markOfEachKind();
        asksOfWhoIsNotThere();
        tracesOfEachAsk();
        traceIsEmptyAhead();
        traceStays();
        traceNumbers();
        countNumbers();
        countAtFirst();
        countOfEach();
        Check.end();
    }

    private static ElbowQueue all() {
        return Check.town(ALL);
    }

    private static void kindNumbers() {
        Check.sentence("Promise 28: BAD");
        new Edges("kind", AskedEdgesTest::all, ElbowQueue::kind).only(0, 9);
        new Edges("kind of 16", () -> Check.town(FULL_HOUSE), ElbowQueue::kind).only(0, 15);
        new Edges("kind of one", () -> Check.town("q0,0;s1,0;"), ElbowQueue::kind).only(0, 0);
        Check.due("nobody", Check.town("q0,0;").kind(0), Check.BAD);
        Check.due("no town", new ElbowQueue().kind(0), Check.BAD);
    }

    private static void kindAsTold() {
        Check.sentence("Promise 28: The KIND of one, as told (1 to 5)");
        ElbowQueue q = all();
        for (int person = 0; person < 10; person++) {
            Check.due("kind(" + person + ")", q.kind(person), person % 5 + 1);
        }
        q.minutes(20);
        q.minutes(20);
        for (int person = 0; person < 10; person++) {
            Check.due("kind(" + person + ") of who is gone", q.kind(person), person % 5 + 1);
        }
    }

    private static void asNumbers() {
        Check.sentence("Promise 29: a KIND (0 .. 5). BAD");
        new Edges("as, person", AskedEdgesTest::all, (q, person) -> q.as(person, 0)).only(0, 9);
        new Edges("as, person of 16", () -> Check.town(FULL_HOUSE), (q, person) -> q.as(person, 0)).only(0, 15);
        new Edges("as, kind", AskedEdgesTest::all, (q, kind) -> q.as(4, kind)).takes(0, 0).takes(4, 5)
            .below(0, Check.BAD).above(5, Check.BAD);
        Check.due("no town", new ElbowQueue().as(0, 0), Check.BAD);
        Check.due("nobody", Check.town("q0,0;").as(0, 0), Check.BAD);
        Check.due("BAD ahead of KIND", all().as(10, 5), Check.BAD);
    }

    private static void asTheNumber() {
        Check.sentence("Promise 29: One is taken as one of a KIND: the number");
        ElbowQueue q = Check.town(FULL_HOUSE);
        for (int person = 0; person < 16; person++) {
            Check.due("kind", q.kind(person), person < 8 ? 1 : 5);
            Check.due("as a person", q.as(person, 0), person);
            Check.due("as he is told", q.as(person, q.kind(person)), person);
        }
        q.go(3);
        Check.due("who has left is one, too", q.as(3, 1), 3);
    }

    private static void asOfEachKind() {
        Check.sentence("KINDS: 0 PERSON; 1 BELIEVER; 2 FOLLOWER, 3 SUNK, BELIEVERS; 4 FIRST; 5 DOUBTER, a FIRST");
        String[] kinds = {"01", "012", "013", "04", "045"};
        for (int person = 0; person < 10; person++) {
            for (int kind = 0; kind <= 5; kind++) {
                ElbowQueue q = all();
                boolean is = kinds[person % 5].indexOf('0' + kind) >= 0;
                String call = "as(" + person + ", " + kind + ")";
                Check.due(call, q.as(person, kind), is ? person : Check.KIND);
                Check.due("status behind " + call, q.status(), is ? 0 : 3);
            }
        }
    }

    private static void askNumbers() {
        Check.sentence("Promise 30: An ASK (0, 1) of one. BAD");
        new Edges("ask, person", AskedEdgesTest::all, (q, person) -> q.ask(person, SIZE)).only(0, 9);
        new Edges("ask, person", AskedEdgesTest::all, (q, person) -> q.ask(person, MARK)).only(0, 9);
        new Edges("ask, what", AskedEdgesTest::all, (q, what) -> q.ask(0, what)).only(0, 1);
        new Edges("ask of 16", () -> Check.town(FULL_HOUSE), (q, person) -> q.ask(person, SIZE)).only(0, 15);
        Check.due("no town", new ElbowQueue().ask(0, SIZE), Check.BAD);
        Check.due("nobody", Check.town("q0,0;").ask(0, MARK), Check.BAD);
    }

    private static void asked(ElbowQueue q, String where, int person, int size, int mark) {
        Check.due(where + ", SIZE of " + person, q.ask(person, SIZE), size);
        Check.due(where + ", MARK of " + person, q.ask(person, MARK), mark);
    }

    private static void askAtFirst() {
        Check.sentence("0 SIZE: what one has STOOD; 1 MARK: the number: 0 at first of person 0 who believes nothing");
        asked(Check.town("q0,0;b9,0;"), "a believer", 0, 0, 0);
        asked(Check.town("q0,0;w9,0;"), "a follower", 0, 0, 0);
        asked(Check.town("q0,0;s9,0;"), "a sunk one", 0, -1000, -1000);
        asked(Check.town("q0,0;f9,0;"), "a first one", 0, -100, 100);
        asked(Check.town("q0,0;d9,0;"), "a doubter", 0, -200, 200);
    }

    /** The longest that one can have stood: what 10 gives, is the whole of it. */
    private static void sizeLent() {
        Check.sentence("10: what one has STOOD");
        ElbowQueue q = Check.town("q0,0;s99,1;");
        for (int n = 0; n < 19; n++) {
            q.minutes(20);
        }
        q.minutes(16);
        asked(q, "in the queue", 0, 396 + 1 - 1000, 1 - 1000);
        q.minutes(1);
        Check.due("he has left", q.person(0, 1), 3);
        asked(q, "left", 0, 397 + 1 - 1000, 1 - 1000);
        q.minutes(20);
        asked(q, "he stands no more", 0, 397 + 1 - 1000, 1 - 1000);
    }

    /** One who has stood 3 minutes, at place 7, who believes 2 (first ones: CAUSE is 3). */
    private static ElbowQueue eighth(char sort) {
        ElbowQueue q = Check.town("q3,0;" + "d99,0;".repeat(7) + sort + "99,2;");
        q.minutes(3);
        return q;
    }

    private static void sizeOfEachKind() {
        Check.sentence("0 SIZE: 10, 11 of BELIEVERS, 12 of FOLLOWERS, 13 of FIRST ones, 14 of DOUBTERS");
        Check.due("11: 10, and MARK", eighth('b').ask(7, SIZE), 3 + (7 + 2));
        Check.due("12: 0 less 11", eighth('w').ask(7, SIZE), -(3 + 2 * (7 + 2)));
        Check.due("11, MARK of a sunk one", eighth('s').ask(7, SIZE), 3 + (7 + 2 - 1000));
        Check.due("13: 10, less 100", eighth('f').ask(7, SIZE), 3 - 100);
        Check.due("14: 13, twice", eighth('d').ask(7, SIZE), 2 * (3 - 100));
    }

    private static void markOfEachKind() {
        Check.sentence("1 MARK: 20, 21 of BELIEVERS, 22 of SUNK ones, 23 of FIRST ones, 24 of FOLLOWERS");
        Check.due("21: 20, and what he believes", eighth('b').ask(7, MARK), 7 + 2);
        Check.due("24: 21, twice", eighth('w').ask(7, MARK), 2 * (7 + 2));
        Check.due("22: 21, less 1000", eighth('s').ask(7, MARK), 7 + 2 - 1000);
        Check.due("23: 20, less SIZE", eighth('f').ask(7, MARK), 7 - (3 - 100));
        Check.due("23, SIZE of a doubter", eighth('d').ask(7, MARK), 7 - 2 * (3 - 100));
    }

    private static void asksOfWhoIsNotThere() {
        Check.sentence("ASKS of PEOPLE: of all of them, whether they are in the QUEUE or not");
        ElbowQueue q = Check.town("q1,1;b9,2;d0,0;b9,0;pw9,3,16;pb9,3,16;");
        q.minutes(1);
        asked(q, "served", 0, 0 + 2, 2);
        asked(q, "left", 1, 2 * (1 - 100), 1 + 198);
        asked(q, "in the queue", 2, 1 + 2, 2);
        asked(q, "by", 3, -(2 * (3 + 3)), 2 * (3 + 3));
        asked(q, "to come", 4, 4 + 3, 4 + 3);
    }

    private static void traced(ElbowQueue q, String where, int... want) {
        for (int i = 0; i < want.length; i++) {
            Check.due(where + " trace(" + i + ")", q.trace(i), want[i]);
        }
        for (int i = want.length; i < 18; i++) {
            Check.due(where + " trace(" + i + ")", q.trace(i), Check.NONE);
        }
    }

    private static void tracesOfEachAsk() {
        Check.sentence("BODIES, each of which leaves its number in THE TRACE as it begins");
        int[][] sizes = {{11, 10, 21, 20}, {12, 11, 10, 24, 21, 20}, {11, 10, 22, 21, 20}, {13, 10}, {14, 13, 10}};
        int[][] marks = {{21, 20}, {24, 21, 20}, {22, 21, 20}, {23, 20, 13, 10}, {23, 20, 14, 13, 10}};
        for (int person = 0; person < 10; person++) {
            ElbowQueue q = all();
            q.ask(person, SIZE);
            traced(q, "SIZE of " + SORTS.charAt(person % 5), sizes[person % 5]);
            q.ask(person, MARK);
            traced(q, "MARK of " + SORTS.charAt(person % 5), marks[person % 5]);
        }
    }

    private static void traceIsEmptyAhead() {
        Check.sentence("Promise 30: THE TRACE is empty ahead of it");
        ElbowQueue q = all();
        q.ask(1, SIZE);
        q.ask(3, SIZE);
        traced(q, "a shorter one", 13, 10);
        q.ask(3, SIZE);
        traced(q, "the same again", 13, 10);
        for (int n = 0; n < 20; n++) {
            q.ask(1, SIZE);
        }
        traced(q, "twenty times six", 12, 11, 10, 24, 21, 20);
    }

    private static void traceStays() {
        Check.sentence("What is refused changes nothing: THE TRACE is as it was");
        ElbowQueue q = all();
        q.ask(4, MARK);
        q.ask(10, SIZE);
        q.ask(-1, SIZE);
        q.ask(0, 2);
        q.ask(0, -1);
        traced(q, "refused", 23, 20, 14, 13, 10);
        q.minutes(1);
        q.as(0, 5);
        q.kind(0);
        traced(q, "other calls", 23, 20, 14, 13, 10);
        Check.read(q, "q0,0;");
        traced(q, "another town", 23, 20, 14, 13, 10);
    }

    private static void traceNumbers() {
        Check.sentence("Promise 31: Number i of THE TRACE; NONE");
        ElbowQueue fresh = new ElbowQueue();
        traced(fresh, "none at first");
        ElbowQueue q = all();
        q.ask(1, SIZE);
        Check.due("the first", q.trace(0), 12);
        Check.due("ahead of the first", q.trace(-1), Check.NONE);
        Check.due("the last", q.trace(5), 20);
        Check.due("behind the last", q.trace(6), Check.NONE);
        Check.due("16", q.trace(16), Check.NONE);
        Check.due("far", q.trace(Integer.MAX_VALUE), Check.NONE);
        Check.due("far below", q.trace(Integer.MIN_VALUE), Check.NONE);
    }

    private static void countNumbers() {
        Check.sentence("Promise 32: How many: 0 .. 8. BAD");
        new Edges("count", AskedEdgesTest::all, ElbowQueue::count).only(0, 8);
        new Edges("count without a town", ElbowQueue::new, ElbowQueue::count).only(0, 8);
    }

    private static void countAtFirst() {
        Check.sentence("Promise 32: without a TOWN");
        ElbowQueue q = new ElbowQueue();
        Check.counts(q, "a new object", 0, 0, 0, 0, 0, 0, 0, 0, 0);
        q.row(7, 0, 0);
        q.feed('q');
        Check.counts(q, "a row and a byte", 1, 0, 0, 0, 0, 0, 0, 0, 1);
        q.town();
        Check.counts(q, "a fault", 1, 0, 0, 0, 0, 0, 0, 0, 0);
    }

    private static void countOfEach() {
        Check.sentence("Promise 32: 0 ROWS, 1 PEOPLE, 2 passers, 3 MINUTE, 4 in the QUEUE, 5 CAUSE, 6 SERVES, 7 ACTS, 8 bytes");
        ElbowQueue q = Check.town("q3,9;" + "f99,0;".repeat(8) + "pf99,0,0;".repeat(8));
        Check.counts(q, "a full house", 0, 16, 8, 0, 8, 3, 9, 0, 0);
        q.minutes(20);
        Check.counts(q, "passers who have come are among them", 0, 16, 8, 20, 14, 3, 9, 20, 0);
        q.hatch(1, 0);
        Check.counts(q, "a hatch", 0, 16, 8, 20, 14, 1, 0, 21, 0);
        q.minutes(20);
        Check.counts(q, "24 acts", 0, 16, 8, 40, 14, 1, 0, 24, 0);
        q.go(15);
        q.undo();
        Check.counts(q, "of 24 one is undone", 0, 16, 8, 40, 14, 1, 0, 23, 0);
        q.undo();
        Check.counts(q, "two", 0, 16, 8, 39, 14, 1, 0, 22, 0);
    }
}
