/** Promises 1 and 6 to 8: a new object, the tape, towns that are read, faults. */
public final class TextsTest {
    private static final String WAITERS = "b1,0;w2,1;s3,2;f4,3;d5,0;b6,1;w7,2;s8,3;";
    private static final String PASSERS = "pb1,0,0;pw2,1,1;ps3,2,2;pf4,3,16;pd5,0,4;pb6,1,5;pw7,2,6;ps8,3,7;";

    public static void main(String[] args) {
        promise1();
        promise6();
        promise7();
        promise7Replaces();
        faults();
        promise8();
        Check.end();
    }

    private static void promise1() {
        ElbowQueue q = new ElbowQueue();
        Check.counts(q, "new", 0, 0, 0, 0, 0, 0, 0, 0, 0, Check.BAD);
        Check.due("fault", q.fault(), 0);
        Check.due("status", q.status(), 0);
        Check.due("trace", q.trace(0), Check.NONE);
        Check.due("place", q.place(0), Check.NONE);
        Check.due("person", q.person(0, 0), Check.BAD);
        Check.due("say", q.say(0, 0), Check.BAD);
        Check.due("go", q.go(0), Check.BAD);
        Check.due("served", q.served(0, 0), Check.BAD);
        Check.due("kind", q.kind(0), Check.BAD);
        Check.due("ask", q.ask(0, 0), Check.BAD);
        Check.due("as", q.as(0, 0), Check.BAD);
        Check.due("undo", q.undo(), Check.STATE);
        Check.due("image", q.image(1), Check.STATE);
        Check.due("restore", q.restore(1), Check.STATE);
        Check.due("lives", q.lives(), Check.STATE);
        stateAheadOfBad(q);
    }

    private static void stateAheadOfBad(ElbowQueue q) {
        Check.due("minutes", q.minutes(0), Check.STATE);
        Check.due("hatch", q.hatch(4, 10), Check.STATE);
        Check.due("ahead", q.ahead(61, 4), Check.STATE);
        Check.due("order", q.order(-1, -1), Check.STATE);
        Check.due("words", q.words(-1, 2), Check.STATE);
        Check.due("spread", q.spread(4), Check.STATE);
        Check.due("elbows", q.elbows(9), Check.STATE);
        Check.due("grows", q.grows(17, 9, 11, 2), Check.STATE);
        Check.due("opens", q.opens(0, 2), Check.STATE);
        Check.due("seen", q.seen(8, 0, 17), Check.STATE);
        Check.due("image is BAD first", q.image(2), Check.BAD);
        Check.due("restore is BAD first", q.restore(-1), Check.BAD);
    }

    private static void promise6() {
        ElbowQueue q = new ElbowQueue();
        Check.due("below", q.feed(-1), Check.BAD);
        Check.due("above", q.feed(256), Check.BAD);
        Check.due("0", q.feed(0), 1);
        Check.due("255", q.feed(255), 2);
        for (int n = 3; n <= 160; n++) {
            Check.due("byte " + n, q.feed('q'), n);
        }
        Check.due("161", q.feed('q'), Check.FULL);
        Check.due("BAD ahead of FULL", q.feed(256), Check.BAD);
        Check.due("bytes", q.count(8), 160);
        Check.due("read", q.town(), -1000100);
        Check.due("empty", q.count(8), 0);
        Check.due("room again", q.feed('q'), 1);
    }

    private static void promise7() {
        ElbowQueue q = new ElbowQueue();
        Check.due("nobody", Check.read(q, "q0,0;"), 0);
        Check.due("a town of nobody", q.minutes(1), 0);
        Check.due("all", Check.read(q, "q3,9;" + WAITERS + PASSERS), 16);
        Check.counts(q, "all", 0, 16, 8, 0, 8, 3, 9, 0, 0);
        Check.inQueue(q, "all", 0, 1, 2, 3, 4, 5, 6, 7);
        Check.person(q, "waiter", 2, 2, 1, 0, 2, 3, 2);
        Check.person(q, "first one", 3, 3, 1, 0, 3, 4, 3);
        Check.person(q, "passer", 9, Check.NONE, 0, 0, 1, 2, 9);
        Check.person(q, "last passer", 15, Check.NONE, 0, 0, 3, 8, 15);
        Check.due("passers alone", Check.read(q, "q1,2;pb1,0,0;"), 1);
        Check.counts(q, "passers alone", 0, 1, 1, 0, 0, 1, 2, 0, 0);
        Check.due("two figures", Check.read(q, "q03,09;b00,01;w99,03;pd07,00,16;"), 3);
        Check.counts(q, "two figures", 0, 3, 1, 0, 2, 3, 9, 0, 0);
        Check.person(q, "two figures", 0, 0, 1, 0, 1, 0, 0);
        Check.person(q, "two figures", 1, 1, 1, 0, 3, 99, 1);
    }

    private static void promise7Replaces() {
        ElbowQueue q = Check.town("q1,1;b9,0;b9,0;pb9,0,0;");
        q.minutes(1);
        q.hatch(2, 5);
        Check.due("acts", q.count(7), 2);
        Check.due("a fault", Check.read(q, "q1,1;b9,0"), -1000109);
        Check.counts(q, "all stays", 0, 3, 1, 1, 2, 2, 5, 2, 0);
        Check.inQueue(q, "all stays", 1, 2);
        Check.due("one more town", Check.read(q, "q3,0;d4,1;"), 1);
        Check.counts(q, "one more town", 0, 1, 0, 0, 1, 3, 0, 0, 0);
        Check.person(q, "one more town", 0, 0, 1, 0, 1, 4, 0);
        Check.due("no act", q.undo(), Check.STATE);
        Check.due("nobody else", q.person(1, 0), Check.BAD);
        q.minutes(2);
        Check.due("anew", Check.read(q, "q3,0;d4,2;pb9,1,0;"), 2);
        Check.person(q, "nobody has stood", 0, 0, 1, 0, 2, 4, 0);
        Check.person(q, "to come", 1, Check.NONE, 0, 0, 1, 9, 1);
        q.minutes(3);
        Check.due("passers alone", Check.read(q, "q0,0;pd4,2,0;pb9,1,0;"), 2);
        Check.person(q, "to come", 0, Check.NONE, 0, 0, 2, 4, 0);
        Check.person(q, "to come", 1, Check.NONE, 0, 0, 1, 9, 1);
    }

    private static void faultOf(String text, int place, int number) {
        ElbowQueue q = Check.town("q1,2;b7,0;");
        q.minutes(1);
        Check.due("town of " + text, Check.read(q, text), -1000100 - place);
        Check.due("fault of " + text, q.fault(), number);
        Check.counts(q, text, 0, 1, 0, 1, 1, 1, 2, 1, 0);
    }

    private static void faults() {
        faultOf("", 0, 1);
        faultOf("x", 0, 1);
        faultOf("Q0,0;", 0, 1);
        faultOf("b1,0;", 0, 1);
        faultOf(";q0,0;", 0, 1);
        faultOf("q", 1, 1);
        faultOf("qq0,0;", 1, 1);
        faultOf("q,0;", 1, 1);
        faultOf("q4,0;", 1, 2);
        faultOf("q000,0;", 1, 1);
        faultOf("q999,0;", 1, 1);
        faultOf("q0", 2, 1);
        faultOf("q0;0;", 2, 1);
        faultOf("q0 ,0;", 2, 1);
        faultOf("q0,", 3, 1);
        faultOf("q0,10;", 3, 2);
        faultOf("q0,0", 4, 1);
        faultOf("q0,0,", 4, 1);
        faultOf("q0,0;q", 5, 1);
        faultOf("q0,0;;", 5, 1);
        faultOf("q0,0;1", 5, 1);
        faultOf("q0,0;" + (char) 0, 5, 1);
        faultOf("q0,0;" + (char) 255, 5, 1);
        faultOf("q0,0;a1,0;", 5, 1);
        waiterFaults();
        passerFaults();
    }

    private static void waiterFaults() {
        faultOf("q0,0;b", 6, 1);
        faultOf("q0,0;bw1,0;", 6, 1);
        faultOf("q0,0;b100,0;", 6, 1);
        faultOf("q0,0;b99,4;", 9, 2);
        faultOf("q0,0;b99,10;", 9, 2);
        faultOf("q0,0;b99;", 8, 1);
        faultOf("q0,0;b99,3", 10, 1);
        faultOf("q0,0;b99,3,", 10, 1);
        faultOf("q0,0;b1,0;x", 10, 1);
        faultOf("q0,0;" + WAITERS + "b", 45, 3);
        faultOf("q0,0;" + WAITERS + "x", 45, 1);
        faultOf("q0,0;" + WAITERS + "d999,9;", 45, 3);
        faultOf("q4,0;" + WAITERS + "d999,9;", 1, 2);
    }

    private static void passerFaults() {
        faultOf("q0,0;p", 6, 1);
        faultOf("q0,0;p1,0,0;", 6, 1);
        faultOf("q0,0;pp1,0,0;", 6, 1);
        faultOf("q0,0;pb1,0;", 10, 1);
        faultOf("q0,0;pb1,4,0;", 9, 2);
        faultOf("q0,0;pb1,0,17;", 11, 2);
        faultOf("q0,0;pb1,0,016;", 11, 1);
        faultOf("q0,0;pb1,0,16", 13, 1);
        faultOf("q0,0;pb1,0,0;b1,0;", 13, 1);
        faultOf("q0,0;" + WAITERS + "pb1,0,0;b1,0;", 53, 1);
        faultOf("q0,0;" + PASSERS + "p", 70, 3);
        faultOf("q0,0;" + PASSERS + "b", 70, 1);
        faultOf("q0,0;" + WAITERS + PASSERS + "pq", 110, 3);
    }

    private static void promise8() {
        ElbowQueue q = new ElbowQueue();
        Check.due("before one", q.fault(), 0);
        Check.read(q, "q0,0;");
        Check.due("none yet", q.fault(), 0);
        Check.read(q, "q9,0;");
        Check.due("2", q.fault(), 2);
        Check.read(q, "q0,0;");
        Check.due("the latest stays", q.fault(), 2);
        Check.read(q, "q0,0;b");
        Check.due("1", q.fault(), 1);
        Check.read(q, "q0,0;" + WAITERS + "b");
        Check.due("3", q.fault(), 3);
    }
}
