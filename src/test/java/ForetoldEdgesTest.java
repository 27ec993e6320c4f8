/** Boundary cases of promises 16 to 27 and of what is FORETOLD, a test for each sentence. */
public final class ForetoldEdgesTest extends ForetoldAnswers {
    private static final int NONE = Check.NONE;
    private static final String EIGHT = "b99,1;".repeat(8), PASSERS = "pb99,1,0;".repeat(8);

    public static void main(String[] args) {
        aheadNumbers();
        aheadNowAndLast();
        aheadCountsAll();
        orderNumbers();
        orderNowAndLast();
        foretoldBeyondTheLastMinute();
        livesNow();
        livesTillTheLast();
        livesWhilePassersCome();
        wordsNumbers();
        wordsNobodyThere();
        wordsOfSeveralTheLeast();
        wordsNoneIsLongest();
        servedNumbers();
        servedAlready();
        servedAtTheLast();
        leavesAtTheLast();
        servedNone();
        spreadNumbers();
        spreadNow();
        spreadAtTheLast();
        spreadOneAtLeast();
        elbowsNumbers();
        elbowsFewestAndMost();
        elbowsOfPassersToCome();
        elbowsAreBelievers();
        growsNumbers();
        growsInLowestTerms();
        growsAtLeast();
        growsEachByHimself();
        growsBehindAllPassers();
        opensNumbers();
        opensFirstAndLast();
        opensInSixtyMinutes();
        opensAsItIsTillThen();
        seenNumbers();
        seenPlaces();
        seenRefused();
        seenNobodyKnown();
        seenNowAndLast();
        seenFirst();
        seenJustSo();
        imageNumbers();
        restoreNoneKept();
        restoreIsAsKept();
        restoreOfAFullHouse();
        restoreGoesOn();
        imagesAreTwo();
        Check.end();
    }

    private static ElbowQueue anyTown() {
        return Check.town("q1,4;f9,0;b5,0;w3,2;d8,3;pb6,0,4;pw3,3,7;");
    }

    private static Edges edges(String name, Edges.Call call) {
        return new Edges(name, ForetoldEdgesTest::anyTown, call);
    }

    private static void aheadOf(Edges.Call call, String name) {
        new Edges(name + " without a town", ElbowQueue::new, call).below(0, Check.STATE).above(0, Check.STATE);
    }

    private static void aheadNumbers() {
        Check.sentence("Promise 16: Behind n MINUTES (0 to 60); what = 0 .. 3. BAD; STATE: no TOWN (ahead of BAD)");
        edges("ahead, n", (q, n) -> q.ahead(n, 0)).only(0, 60);
        edges("ahead, n, what = 3", (q, n) -> q.ahead(n, 3)).only(0, 60);
        edges("ahead, what", (q, what) -> q.ahead(0, what)).only(0, 3);
        aheadOf((q, n) -> q.ahead(n, 0), "ahead");
        aheadOf((q, what) -> q.ahead(0, what), "ahead");
    }

    private static void aheadNowAndLast() {
        Check.sentence("Promise 16: Behind n MINUTES: 0 is now, 60 the last");
        ElbowQueue q = Check.town("q0,0;f59,0;f60,0;f99,0;pf9,0,16;");
        ahead(q, 0, 3, 0, 0, 0);
        ahead(q, 1, 3, 0, 0, 1);
        ahead(q, 59, 3, 0, 0, 1);
        ahead(q, 60, 2, 0, 1, 1);
        ElbowQueue door = Check.town("q0,6;" + EIGHT + PASSERS);
        ahead(door, 59, 7, 9, 0, 0);
        ahead(door, 60, 6, 10, 0, 0);
        ahead(Check.town("q0,0;"), 60, 0, 0, 0, 0);
    }

    private static void aheadCountsAll() {
        Check.sentence("Promise 16: how many are in the QUEUE, SERVED, have LEFT, gone BY");
        ElbowQueue q = Check.town("q0,1;f9,0;d0,0;f9,0;f9,0;pf9,0,16;pf9,0,16;pf9,0,0;");
        q.minutes(1);
        ahead(q, 0, 2, 1, 1, 1);
        ahead(q, 1, 1, 2, 1, 2);
        ahead(q, 2, 1, 3, 1, 2);
        ahead(q, 3, 0, 4, 1, 2);
        q.go(2);
        ahead(q, 0, 1, 1, 2, 1);
    }

    private static void orderNumbers() {
        Check.sentence("Promise 17: Who is at a PLACE behind n MINUTES (0 to 60); NONE. BAD; STATE (ahead of BAD)");
        edges("order, n", (q, n) -> q.order(n, 0)).only(0, 60);
        edges("order, k", (q, k) -> q.order(0, k)).from(0);
        edges("order, k, n = 60", (q, k) -> q.order(60, k)).from(0);
        aheadOf((q, n) -> q.order(n, 0), "order");
        aheadOf((q, k) -> q.order(0, k), "order");
    }

    private static void orderNowAndLast() {
        Check.sentence("Promise 17: behind n MINUTES: 0 is now, 60 the last; NONE");
        ElbowQueue q = Check.town("q0,0;f59,0;f60,0;f99,0;");
        Check.due("order(0, 0)", q.order(0, 0), 0);
        Check.due("order(0, 2)", q.order(0, 2), 2);
        Check.due("order(0, 3)", q.order(0, 3), NONE);
        Check.due("order(59, 0)", q.order(59, 0), 0);
        Check.due("order(60, 0)", q.order(60, 0), 1);
        Check.due("order(60, 1)", q.order(60, 1), 2);
        Check.due("order(60, 2)", q.order(60, 2), NONE);
        ElbowQueue full = Check.town("q0,0;" + EIGHT + PASSERS);
        Check.due("the last of 16", full.order(8, 15), 15);
        Check.due("of 15", full.order(7, 15), NONE);
        Check.due("behind the last of 16", full.order(8, 16), NONE);
        Check.due("far", full.order(8, Integer.MAX_VALUE), NONE);
        Check.due("nobody", Check.town("q0,0;").order(0, 0), NONE);
    }

    /** Six followers stay for ever; when the door takes one of them, at minute 1008, five are no crowd and leave. */
    private static void foretoldBeyondTheLastMinute() {
        Check.sentence("FORETOLD, behind n MINUTES from now on: FULL is told for minutes() alone");
        ElbowQueue q = Check.town("q0,0;" + "w0,0;".repeat(6));
        for (int n = 0; n < 49; n++) {
            q.minutes(20);
        }
        Check.due("six at 999", q.minutes(19), 6);
        Check.due("minutes", q.minutes(1), Check.FULL);
        q.hatch(0, 9);
        ahead(q, 8, 6, 0, 0, 0);
        ahead(q, 9, 0, 1, 5, 0);
        ahead(q, 60, 0, 1, 5, 0);
        Check.due("order", q.order(8, 5), 5);
        Check.due("lives", q.lives(), 9);
        words(q, 5, 0, 0);
        served(q, 0, 9, NONE);
        served(q, 5, NONE, 9);
        spread(q, 0, NONE, NONE, NONE);
        elbows(q, 0, NONE);
        odds(q, 6, 8, 5, 1, 1);
        opens(q, 9, 30, 1);
        q.row(0, 0, 0);
        Check.due("seen", q.seen(0, 0, 0), 9);
        Check.due("still 999", q.count(3), 999);
    }

    private static void livesNow() {
        Check.sentence("LIVES: behind how many (0 to 200): 0 is now");
        lives("q0,0;", 0);
        lives("q0,0;f0,0;", 1);
        lives("q0,1;f9,0;", 1);
        ElbowQueue q = Check.town("q0,0;f9,0;");
        q.go(0);
        Check.due("the last one went", q.lives(), 0);
        Check.due("no town", new ElbowQueue().lives(), Check.STATE);
        for (int patience = 0; patience <= 99; patience++) {
            lives("q0,0;f" + patience + ",0;", patience + 1);
            lives("q0,0;b" + patience + ",3;", 2 * patience + 1);
        }
    }

    private static void livesTillTheLast() {
        Check.sentence("LIVES: behind how many (0 to 200); NONE");
        lives("q0,0;b99,1;", 199);
        lives("q0,0;b99,1;pb99,1,0;", 200);
        lives("q0,0;b99,1;pb99,1,0;pb99,1,0;", NONE);
        lives("q0,0;s49,1;", 197);
        lives("q0,0;ps49,1,0;", 198);
        lives("q0,0;s50,1;", NONE);
        ElbowQueue q = Check.town("q0,0;s50,1;");
        Check.due("201 minutes", q.lives(), NONE);
        q.minutes(1);
        Check.due("200 minutes", q.lives(), 200);
    }

    private static void livesWhilePassersCome() {
        Check.sentence("LIVES: nobody is in the QUEUE, and no passer is to come");
        lives("q0,0;pf9,0,16;", 1);
        lives("q0,0;" + "pf9,0,16;".repeat(8), 8);
        lives("q0,0;d0,0;pf9,0,16;pf9,0,16;", 2);
        lives("q0,0;d0,0;pf9,0,16;pf9,0,0;", 12);
        lives("q0,0;pd0,0,0;", 2);
    }

    private static void wordsNumbers() {
        Check.sentence("Promise 19: BAD: k below 0, what; STATE: no TOWN (ahead of BAD)");
        edges("words, k", (q, k) -> q.words(k, 0)).from(0);
        edges("words, k, shortest", (q, k) -> q.words(k, 1)).from(0);
        edges("words, what", (q, what) -> q.words(0, what)).only(0, 1);
        aheadOf((q, k) -> q.words(k, 0), "words");
        aheadOf((q, what) -> q.words(0, what), "words");
    }

    private static void wordsNobodyThere() {
        Check.sentence("Promise 19: NONE: nobody is there");
        words(Check.town("q0,0;"), "nobody", 0, NONE, NONE);
        words(Check.town("q0,0;pb9,0,0;"), "a passer to come", 0, NONE, NONE);
        ElbowQueue q = Check.town("q0,0;b9,0;b8,0;");
        words(q, "the last", 1, 1, 0);
        words(q, "behind the last", 2, NONE, NONE);
        words(q, "far", Integer.MAX_VALUE, NONE, NONE);
        Check.due("BAD ahead of NONE", q.words(2, 2), Check.BAD);
        q.go(1);
        words(q, "gone", 1, NONE, NONE);
    }

    private static void wordsOfSeveralTheLeast() {
        Check.sentence("WORDS: of several the least");
        words(Check.town("q2,0;f9,0;"), "a first one", 0, 0, 0);
        words(Check.town("q0,0;d9,3;"), "a doubter", 0, 0, 0);
        words(Check.town("q0,0;b9,0;"), "something is longer", 0, 1, 0);
        words(Check.town("q0,0;b9,3;"), "what he believes counts not", 0, 1, 0);
        words(Check.town("q0,0;b0,2;"), "twice 0 is 0", 0, 0, 0);
        words(Check.town("q0,0;b1,0;f9,0;"), "another lives longer", 0, 0, 0);
    }

    private static void wordsNoneIsLongest() {
        Check.sentence("WORDS: LIVES longest (NONE is longest of all), shortest");
        ElbowQueue q = Check.town("q0,0;s99,1;pb99,1,0;");
        Check.due("as it is", q.lives(), NONE);
        words(q, "200 or NONE", 0, 1, 0);
        Check.due("0 is said", q.say(0, 0), 1);
        Check.due("lives then", q.lives(), 200);
        words(Check.town("q0,0;s99,1;s99,1;"), "all are NONE", 0, 0, 0);
        words(Check.town("q0,0;s99,0;"), "199 or NONE", 0, 1, 0);
    }

    private static void servedNumbers() {
        Check.sentence("Promise 20: SERVED (what = 0), LEAVES (1). BAD");
        edges("served, person", (q, person) -> q.served(person, 0)).only(0, 5);
        edges("served, person, leaves", (q, person) -> q.served(person, 1)).only(0, 5);
        edges("served, what", (q, what) -> q.served(0, what)).only(0, 1);
        new Edges("served of 16", () -> Check.town("q0,0;" + EIGHT + PASSERS), (q, person) -> q.served(person, 0))
            .only(0, 15);
        Check.due("no town", new ElbowQueue().served(0, 0), Check.BAD);
        Check.due("nobody", Check.town("q0,0;").served(0, 0), Check.BAD);
    }

    private static void servedAlready() {
        Check.sentence("Promise 20: 0: it is so already");
        ElbowQueue q = Check.town("q0,1;f9,0;d0,0;f9,0;pf9,0,16;");
        served(q, 0, 1, NONE);
        served(q, 1, NONE, 1);
        q.minutes(1);
        served(q, 0, 0, NONE);
        served(q, 1, NONE, 0);
        served(q, 3, NONE, NONE);
        q.go(2);
        served(q, 2, NONE, 0);
        q.minutes(20);
        served(q, 0, 0, NONE);
        served(q, 1, NONE, 0);
    }

    /** No queue of 16 needs more than 16 times 9 minutes at the door. */
    private static void servedAtTheLast() {
        Check.sentence("SERVED of one: behind how many MINUTES (200 at most) he is SERVED");
        ElbowQueue q = Check.town("q0,9;" + EIGHT + PASSERS);
        for (int person = 0; person < 16; person++) {
            served(q, person, 9 * person + 9, NONE);
        }
        ElbowQueue late = Check.town("q0,9;" + EIGHT + PASSERS);
        late.minutes(10);
        served(late, 0, 0, NONE);
        served(late, 15, 134, NONE);
    }

    private static void leavesAtTheLast() {
        Check.sentence("SERVED of one: behind how many MINUTES (200 at most) he LEAVES; NONE");
        ElbowQueue q = Check.town("q0,0;b99,1;pb99,1,0;pb99,1,0;");
        served(q, 0, NONE, 199);
        served(q, 1, NONE, 200);
        served(q, 2, NONE, NONE);
        q.minutes(1);
        served(q, 2, NONE, 200);
        ElbowQueue sunk = Check.town("q0,0;s50,1;");
        served(sunk, 0, NONE, NONE);
        sunk.minutes(1);
        served(sunk, 0, NONE, 200);
    }

    private static void servedNone() {
        Check.sentence("SERVED of one: NONE (he goes BY, too)");
        ElbowQueue q = Check.town("q0,1;f9,0;pf9,0,1;pf9,0,0;");
        served(q, 0, 1, NONE);
        served(q, 1, NONE, NONE);
        served(q, 2, 3, NONE);
        q.minutes(1);
        Check.due("by", q.person(1, 1), 4);
        served(q, 1, NONE, NONE);
    }

    private static void spreadNumbers() {
        Check.sentence("Promise 21: SPREAD of something (0 to 3). BAD; STATE: no TOWN (ahead of BAD)");
        edges("spread", ElbowQueue::spread).only(0, 3);
        aheadOf(ElbowQueue::spread, "spread");
    }

    private static void spreadNow() {
        Check.sentence("SPREAD: behind how many (0 to 60): 0 is now");
        for (int belief = 0; belief <= 3; belief++) {
            ElbowQueue q = Check.town("q0,0;d99," + belief + ";d9," + belief + ";");
            for (int other = 0; other <= 3; other++) {
                Check.due("spread(" + other + ")", q.spread(other), other == belief ? 0 : NONE);
            }
        }
        ElbowQueue told = Check.town("q3,0;f99,0;b99,0;");
        Check.due("behind one", told.spread(3), 1);
        told.minutes(1);
        Check.due("now", told.spread(3), 0);
    }

    private static void spreadAtTheLast() {
        Check.sentence("SPREAD: behind how many (0 to 60); NONE");
        spread(Check.town("q1,0;b59,0;f99,0;"), NONE, 60, NONE, NONE);
        spread(Check.town("q1,0;b60,0;f99,0;"), NONE, NONE, NONE, NONE);
        ElbowQueue q = Check.town("q0,0;f99,0;b30,1;");
        spread(q, NONE, NONE, NONE, NONE);
        q.minutes(1);
        spread(q, 60, NONE, NONE, NONE);
        q.minutes(1);
        spread(q, 59, NONE, NONE, NONE);
    }

    private static void spreadOneAtLeast() {
        Check.sentence("SPREAD: all in the QUEUE (one at least) BELIEVE it");
        spread(Check.town("q0,0;"), NONE, NONE, NONE, NONE);
        spread(Check.town("q0,0;pd9,2,0;"), NONE, NONE, 1, NONE);
        spread(Check.town("q0,0;d0,1;pd9,2,16;pd9,0,0;"), 2, 0, NONE, NONE);
        spread(Check.town("q0,0;d0,1;"), NONE, 0, NONE, NONE);
        spread(Check.town("q0,0;d9,1;d9,2;"), NONE, NONE, NONE, NONE);
        spread(Check.town("q0,0;d9,1;d9,1;d9,2;"), NONE, NONE, NONE, NONE);
        spread(Check.town("q0,0;d9,2;d9,1;d9,1;"), NONE, NONE, NONE, NONE);
        spread(Check.town("q0,0;d0,2;d9,1;d9,1;"), NONE, 1, NONE, NONE);
    }

    private static void elbowsNumbers() {
        Check.sentence("Promise 22: BAD: k 0 to 8; STATE: no TOWN (ahead of BAD)");
        edges("elbows", ElbowQueue::elbows).only(0, 8);
        aheadOf(ElbowQueue::elbows, "elbows");
    }

    private static void elbowsFewestAndMost() {
        Check.sentence("ELBOWS: the fewest believers (0 to 12); NONE");
        for (int waiters = 0; waiters <= 8; waiters++) {
            for (int need = 0; need <= 16; need++) {
                ElbowQueue q = Check.town("q0,0;" + EIGHT.substring(0, 6 * waiters) + "pb9,0," + need + ";");
                int lacking = Math.max(need - waiters, 0);
                Check.due(waiters + " waiters, need " + need, q.elbows(1), lacking > 12 ? NONE : lacking);
                Check.due("none need join", q.elbows(0), 0);
            }
        }
    }

    private static void elbowsOfPassersToCome() {
        Check.sentence("ELBOWS: so that at least k of the passers to come JOIN");
        ElbowQueue q = Check.town("q0,0;f99,0;pf99,0,16;pf99,0,0;pf99,0,5;pf99,0,5;");
        elbows(q, "all are to come", 0, 0, 3, 3, NONE);
        q.minutes(1);
        elbows(q, "the first went by", 0, 0, 3, 3, NONE);
        q.minutes(1);
        elbows(q, "the second joined", 0, 3, 3, NONE, NONE);
        ElbowQueue all = Check.town("q0,0;" + PASSERS);
        elbows(all, "all join", 0, 0, 0, 0, 0, 0, 0, 0, 0);
        all.minutes(8);
        elbows(all, "no passer is to come", 0, NONE, NONE);
    }

    /** A passer of patience 1 stays for the third one, if he hears something from who is ahead of him in time. */
    private static void elbowsAreBelievers() {
        Check.sentence("ELBOWS: believers (PATIENCE 99, BELIEF 0) who JOIN at the end now");
        elbows(Check.town("q0,0;d99,1;pb1,0,2;pf9,0,16;pf9,0,3;"), "one elbow tells him in time", 0, 1, 1);
        elbows(Check.town("q0,0;f99,0;pb1,0,2;pf9,0,16;pf9,0,3;"), "an elbow has nothing to tell", 0, 1, 2);
        elbows(Check.town("q0,0;d99,1;pb1,0,4;pf9,0,16;pf9,0,5;"), "three elbows tell him too late", 0, 3, 4, NONE);
        String late = "q0,0;" + "pf9,0,16;".repeat(7) + "pf9,0,12;";
        elbows(Check.town(late), "twelve bear it for eight minutes", 0, 12, NONE);
        elbows(Check.town("q0,1;pf9,0,1;pf9,0,1;pf9,0,1;"), "the door takes them", 0, 2, 2, 2, NONE);
        elbows(Check.town("q0,1;d99,1;d99,1;d99,1;pb9,0,3;pb9,0,3;"), "the door takes others", 0, 1, 1, NONE);
    }

    private static void growsNumbers() {
        Check.sentence("Promise 23: n (0 to 8), c (0 to 10), k 0 to 16, what = 0, 1. BAD; STATE: no TOWN (ahead of BAD)");
        edges("grows, k", (q, k) -> q.grows(k, 4, 5, 0)).only(0, 16);
        edges("grows, n", (q, n) -> q.grows(4, n, 5, 0)).only(0, 8);
        edges("grows, c", (q, c) -> q.grows(4, 4, c, 0)).only(0, 10);
        edges("grows, what", (q, what) -> q.grows(4, 4, 5, what)).only(0, 1);
        aheadOf((q, k) -> q.grows(k, 4, 5, 0), "grows");
        aheadOf((q, n) -> q.grows(4, n, 5, 0), "grows");
        aheadOf((q, c) -> q.grows(4, 4, c, 0), "grows");
        aheadOf((q, what) -> q.grows(4, 4, 5, what), "grows");
    }

    private static void growsInLowestTerms() {
        Check.sentence("fractions, told as two numbers in lowest terms (0 is 0 by 1)");
        ElbowQueue q = Check.town("q0,0;" + PASSERS);
        int[] above = {0, 1, 1, 3, 2, 1, 3, 7, 4, 9, 1};
        int[] below = {1, 10, 5, 10, 5, 2, 5, 10, 5, 10, 1};
        for (int c = 0; c <= 10; c++) {
            odds(q, 1, 1, c, above[c], below[c]);
            odds(q, 0, 1, c, 1, 1);
            odds(q, 2, 1, c, 0, 1);
        }
        odds(q, 8, 8, 1, 1, 100000000);
        odds(q, 8, 8, 9, 43046721, 100000000);
        odds(q, 8, 8, 10, 1, 1);
        odds(q, 8, 8, 0, 0, 1);
        odds(q, 8, 8, 5, 1, 256);
        odds(q, 8, 8, 2, 1, 390625);
    }

    private static void growsAtLeast() {
        Check.sentence("GROWS: the odds that at least k are in the QUEUE behind n MINUTES");
        ElbowQueue now = Check.town("q0,0;" + EIGHT + PASSERS);
        odds(now, 8, 0, 5, 1, 1);
        odds(now, 9, 0, 5, 0, 1);
        odds(now, 9, 1, 5, 1, 2);
        odds(now, 10, 1, 5, 0, 1);
        odds(now, 16, 8, 5, 1, 256);
        odds(now, 15, 8, 5, 9, 256);
        odds(now, 15, 7, 5, 1, 128);
        odds(now, 16, 7, 10, 0, 1);
        odds(now, 8, 8, 0, 1, 1);
        odds(now, 9, 8, 0, 0, 1);
        now.minutes(8);
        odds(now, 16, 0, 0, 1, 1);
        odds(now, 16, 8, 0, 1, 1);
    }

    private static void growsEachByHimself() {
        Check.sentence("GROWS: if each passer is there by c of 10 (each by himself; who is not there goes BY)");
        ElbowQueue one = Check.town("q0,0;pb99,1,0;");
        odds(one, 1, 1, 3, 3, 10);
        odds(one, 1, 2, 3, 3, 10);
        odds(one, 1, 8, 3, 3, 10);
        ElbowQueue two = Check.town("q0,0;pb99,1,0;pb99,1,0;");
        odds(two, 1, 1, 3, 3, 10);
        odds(two, 1, 2, 3, 51, 100);
        odds(two, 2, 2, 3, 9, 100);
        ElbowQueue needing = Check.town("q0,0;pb99,1,0;pb99,1,1;");
        odds(needing, 1, 2, 3, 3, 10);
        odds(needing, 2, 2, 3, 9, 100);
        ElbowQueue never = Check.town("q0,0;pb99,1,16;pb99,1,0;");
        odds(never, 1, 2, 7, 7, 10);
        odds(never, 1, 1, 10, 0, 1);
    }

    private static void growsBehindAllPassers() {
        Check.sentence("GROWS: minutes without a passer are sure");
        ElbowQueue q = Check.town("q0,2;f99,0;f99,0;f99,0;pf99,0,0;");
        odds(q, 3, 1, 5, 1, 1);
        odds(q, 4, 1, 5, 1, 2);
        odds(q, 3, 2, 5, 1, 2);
        odds(q, 2, 4, 5, 1, 2);
        odds(q, 1, 6, 5, 1, 2);
        odds(q, 1, 8, 5, 0, 1);
        q.minutes(1);
        odds(q, 3, 1, 5, 1, 1);
        odds(q, 1, 7, 5, 0, 1);
    }

    private static void opensNumbers() {
        Check.sentence("Promise 24: OPENS with s (1 to 9); what = 0, 1. BAD; STATE: no TOWN (ahead of BAD)");
        edges("opens, s", (q, s) -> q.opens(s, 0)).only(1, 9);
        edges("opens, s, how many", (q, s) -> q.opens(s, 1)).only(1, 9);
        edges("opens, what", (q, what) -> q.opens(1, what)).only(0, 1);
        aheadOf((q, s) -> q.opens(s, 0), "opens");
        aheadOf((q, what) -> q.opens(1, what), "opens");
        Check.due("s 1 without a town", new ElbowQueue().opens(1, 1), Check.STATE);
    }

    private static void opensFirstAndLast() {
        Check.sentence("OPENS: the MINUTE from now on (0 to 30); of several the last");
        for (int patience = 0; patience <= 99; patience++) {
            opens(Check.town("q0,0;f" + patience + ",0;"), 1, Math.min(patience, 30), 1);
        }
        opens(Check.town("q0,0;"), 1, 30, 0);
        opens(Check.town("q0,0;f0,0;"), 2, 30, 0);
        opens(Check.town("q0,0;f1,0;"), 2, 1, 1);
        ElbowQueue q = Check.town("q0,0;f5,0;");
        q.minutes(3);
        opens(q, 1, 2, 1);
        opens(q, 6, 2, 1);
        opens(q, 7, 30, 0);
    }

    private static void opensInSixtyMinutes() {
        Check.sentence("OPENS: most are SERVED in the 60 MINUTES from now on; how many in these");
        ElbowQueue q = Check.town("q0,0;" + EIGHT + PASSERS);
        opens(q, 6, 5, 10);
        q.minutes(5);
        opens(q, 6, 0, 10);
        q.minutes(1);
        opens(q, 6, 5, 10);
        q.hatch(0, 1);
        q.minutes(3);
        Check.due("served till now", q.ahead(0, 1), 3);
        opens(q, 9, 30, 13);
        q.hatch(0, 0);
        opens(q, 9, 8, 6);
        opens(q, 5, 0, 12);
    }

    private static void opensAsItIsTillThen() {
        Check.sentence("OPENS: from which SERVES is to be s (as it is till then)");
        ElbowQueue fast = Check.town("q0,1;" + EIGHT);
        opens(fast, 9, 30, 8);
        ElbowQueue slow = Check.town("q0,9;f9,0;f12,0;");
        opens(slow, 1, 12, 2);
        ElbowQueue same = Check.town("q0,4;" + EIGHT);
        opens(same, 4, 30, 8);
        ElbowQueue passers = Check.town("q0,1;f9,0;pf2,0,1;pf9,0,0;");
        opens(passers, 5, 30, 2);
    }

    private static ElbowQueue withRow() {
        ElbowQueue q = Check.town("q0,0;f9,0;f9,0;");
        q.row(3, 0, 20);
        return q;
    }

    private static void seenNumbers() {
        Check.sentence("Promise 25: n PEOPLE (0 to 16) of a ROW. BAD: ROW, n; STATE: no TOWN (ahead of BAD)");
        new Edges("seen, n", ForetoldEdgesTest::withRow, (q, n) -> q.seen(3, 0, n)).only(0, 16);
        new Edges("seen, row", () -> {
            ElbowQueue q = withRow();
            for (int row = 0; row < 8; row++) {
                q.row(row, 2, 3);
            }
            return q;
        }, (q, row) -> q.seen(row, 0, 3)).only(0, 7);
        aheadOf((q, row) -> q.seen(row, 0, 0), "seen");
        aheadOf((q, i) -> q.seen(0, i, 0), "seen");
        aheadOf((q, n) -> q.seen(0, 0, n), "seen");
    }

    private static void seenPlaces() {
        Check.sentence("Promise 25: from i on; PLACE");
        for (int n = 0; n <= 16; n++) {
            int many = n;
            new Edges("seen, i, " + n, ForetoldEdgesTest::withRow, (q, i) -> q.seen(3, i, many)).takes(0, 20 - n)
                .below(0, Check.PLACE).above(20 - n, Check.PLACE);
        }
    }

    private static void seenRefused() {
        Check.sentence("Promise 25: BAD: ROW, n; NULL; PLACE; then BAD: an ITEM that is none of the PEOPLE");
        ElbowQueue q = withRow();
        q.set(3, 0, 9);
        q.set(3, 19, 9);
        Check.due("BAD ahead of NULL, above", q.seen(4, 0, 17), Check.BAD);
        Check.due("BAD ahead of NULL, below", q.seen(4, 0, -1), Check.BAD);
        Check.due("BAD ahead of PLACE", q.seen(3, 21, 17), Check.BAD);
        Check.due("NULL ahead of PLACE", q.seen(4, -1, 1), Check.NULL);
        Check.due("PLACE ahead of an item", q.seen(3, 19, 2), Check.PLACE);
        Check.due("status", q.status(), 2);
        Check.due("an item", q.seen(3, 19, 1), Check.BAD);
        Check.due("it leaves the status", q.status(), 2);
    }

    private static void seenNobodyKnown() {
        Check.sentence("Promise 25: then BAD: an ITEM that is none of the PEOPLE");
        ElbowQueue q = withRow();
        int[] items = {-1, 0, 1, 2, 127, -128};
        int[] answers = {Check.BAD, NONE, NONE, Check.BAD, Check.BAD, Check.BAD};
        for (int i = 0; i < items.length; i++) {
            q.set(3, 5, items[i]);
            Check.due("the only one, " + items[i], q.seen(3, 5, 1), answers[i]);
            Check.due("the first, " + items[i], q.seen(3, 5, 3), answers[i]);
            Check.due("the last, " + items[i], q.seen(3, 3, 3), answers[i]);
            Check.taken("outside, " + items[i], q.seen(3, 6, 3));
            Check.taken("outside, " + items[i], q.seen(3, 0, 5));
            Check.taken("none of them, " + items[i], q.seen(3, 5, 0));
        }
        ElbowQueue full = Check.town("q0,0;" + EIGHT + PASSERS);
        full.row(0, 2, 1);
        full.set(0, 0, 15);
        Check.taken("15 of 16", full.seen(0, 0, 1));
        full.set(0, 0, 16);
        Check.due("16 of 16", full.seen(0, 0, 1), Check.BAD);
        full.set(0, 0, Integer.MIN_VALUE);
        Check.due("the lowest", full.seen(0, 0, 1), Check.BAD);
    }

    private static void seenNowAndLast() {
        Check.sentence("SEEN: behind how many MINUTES (0 to 200); NONE");
        ElbowQueue q = Check.town("q0,0;b99,1;pb99,1,0;pb99,1,0;pb99,1,0;");
        q.row(0, 0, 4);
        for (int i = 0; i < 4; i++) {
            q.set(0, i, i);
        }
        Check.due("now", q.seen(0, 0, 1), 0);
        Check.due("behind 1", q.seen(0, 0, 2), 1);
        Check.due("behind 3", q.seen(0, 0, 4), 3);
        Check.due("behind 199", q.seen(0, 1, 3), 199);
        Check.due("behind 200", q.seen(0, 2, 2), 200);
        Check.due("behind 201", q.seen(0, 3, 1), NONE);
        Check.due("nobody, behind 202", q.seen(0, 0, 0), NONE);
        q.minutes(1);
        Check.due("from now on, behind 200", q.seen(0, 3, 1), 200);
        q.minutes(1);
        Check.due("nobody, behind 200", q.seen(0, 0, 0), 200);
    }

    private static void seenFirst() {
        Check.sentence("SEEN: the QUEUE is just so first");
        ElbowQueue q = Check.town("q0,0;f99,0;pd0,0,0;pd0,0,16;pd0,0,0;");
        q.row(0, 0, 2);
        Check.due("one alone, now", q.seen(0, 0, 1), 0);
        q.minutes(1);
        Check.due("and again", q.seen(0, 0, 1), 1);
        ElbowQueue empty = Check.town("q0,0;d0,0;pd0,0,16;pd0,0,0;");
        empty.row(0, 0, 0);
        Check.due("nobody, while passers are to come", empty.seen(0, 0, 0), 1);
        Check.due("it lives on", empty.lives(), 3);
        ElbowQueue none = Check.town("q0,0;");
        none.row(0, 0, 0);
        Check.due("nobody, now", none.seen(0, 0, 0), 0);
    }

    private static void seenJustSo() {
        Check.sentence("SEEN: a row tells PEOPLE in the QUEUE, from PLACE 0 on: just so");
        ElbowQueue q = Check.town("q0,0;f9,0;f9,0;f9,0;");
        q.row(0, 1, 6);
        int[] items = {0, 1, 2, 1, 0, 0};
        for (int i = 0; i < items.length; i++) {
            q.set(0, i, items[i]);
        }
        Check.due("all", q.seen(0, 0, 3), 0);
        Check.due("fewer", q.seen(0, 0, 2), NONE);
        Check.due("more", q.seen(0, 0, 4), NONE);
        Check.due("others at the front", q.seen(0, 1, 3), NONE);
        Check.due("the other way round", q.seen(0, 2, 3), NONE);
        Check.due("one twice", q.seen(0, 3, 3), NONE);
        ElbowQueue full = Check.town("q0,0;" + EIGHT + PASSERS);
        full.row(1, 0, 16);
        for (int i = 0; i < 16; i++) {
            full.set(1, i, i);
        }
        Check.due("all 16", full.seen(1, 0, 16), 8);
        full.set(1, 15, 0);
        Check.due("another at the end", full.seen(1, 0, 16), NONE);
    }

    private static void imageNumbers() {
        Check.sentence("Promise 26: An IMAGE (0, 1). BAD; STATE: no TOWN");
        edges("image", ElbowQueue::image).only(0, 1);
        new Edges("image without a town", ElbowQueue::new, ElbowQueue::image).below(0, Check.BAD).above(1, Check.BAD);
        Check.due("image(0)", anyTown().image(0), 1);
        Check.due("image(1)", anyTown().image(1), 1);
        Check.due("no town", new ElbowQueue().image(0), Check.STATE);
        Check.due("no town", new ElbowQueue().image(1), Check.STATE);
        Check.due("a town of nobody", Check.town("q0,0;").image(0), 1);
    }

    private static void restoreNoneKept() {
        Check.sentence("Promise 27: BAD; STATE: none was kept");
        new Edges("restore", () -> {
            ElbowQueue q = anyTown();
            q.image(0);
            q.image(1);
            return q;
        }, ElbowQueue::restore).only(0, 1);
        new Edges("restore, none kept", ElbowQueue::new, ElbowQueue::restore).below(0, Check.BAD).above(1, Check.BAD);
        for (int k = 0; k < 2; k++) {
            ElbowQueue q = anyTown();
            Check.due("none was kept", q.restore(k), Check.STATE);
            q.image(1 - k);
            Check.due("the other was kept", q.restore(k), Check.STATE);
            Check.due("it is there", q.restore(1 - k), 1);
            Check.due("no town", new ElbowQueue().restore(k), Check.STATE);
        }
    }

    private static void restoreIsAsKept() {
        Check.sentence("Promise 27: The TOWN is as an IMAGE kept it (no ACT can be undone then)");
        ElbowQueue q = Check.town("q2,3;f9,0;b8,0;d7,3;s6,1;pw5,0,3;pd4,2,16;ps3,1,0;");
        q.minutes(2);
        q.say(3, 0);
        q.image(0);
        Check.due("the acts stay", q.count(7), 3);
        q.hatch(1, 1);
        q.minutes(6);
        Check.read(q, "q0,0;w1,1;");
        q.minutes(1);
        Check.due("restore", q.restore(0), 1);
        Check.counts(q, "restored", 0, 7, 3, 2, 5, 2, 3, 0, 0);
        Check.inQueue(q, "restored", 0, 1, 2, 3, 4);
        Check.person(q, "restored", 0, 0, 1, 2, 2, 9, 0);
        Check.person(q, "restored", 1, 1, 1, 2, 2, 8, 0);
        Check.person(q, "restored", 2, 2, 1, 2, 3, 7, 2);
        Check.person(q, "restored", 3, 3, 1, 2, 0, 6, 3);
        Check.person(q, "restored", 4, 4, 1, 1, 1, 5, 3);
        Check.person(q, "restored", 5, NONE, 4, 0, 2, 4, 5);
        Check.person(q, "restored", 6, NONE, 0, 0, 1, 3, 6);
        Check.due("kind", q.kind(6), 3);
        Check.due("no act", q.undo(), Check.STATE);
    }

    private static void restoreOfAFullHouse() {
        Check.sentence("Promise 27: as an IMAGE kept it: all 16 PEOPLE");
        ElbowQueue q = Check.town("q0,0;" + EIGHT + "pb99,1,0;".repeat(7) + "pd98,2,0;");
        q.minutes(10);
        q.say(15, 3);
        q.image(0);
        Check.read(q, "q0,0;" + "w1,2;".repeat(8) + "ps1,0,0;".repeat(8));
        q.minutes(9);
        q.restore(0);
        Check.inQueue(q, "restored", 0, 1, 2, 3, 4, 5, 6, 7, 8, 9, 10, 11, 12, 13, 14, 15);
        Check.person(q, "restored", 15, 15, 1, 2, 3, 98, 15);
        Check.due("kind", q.kind(15), 5);
    }

    private static void restoreGoesOn() {
        Check.sentence("Promise 27: as an IMAGE kept it: from there on all is the same");
        ElbowQueue q = Check.town("q2,3;f9,0;b8,0;d7,3;s6,1;pw5,0,3;pd4,2,16;ps3,1,0;");
        ElbowQueue twin = Check.town("q2,3;f9,0;b8,0;d7,3;s6,1;pw5,0,3;pd4,2,16;ps3,1,0;");
        q.minutes(1);
        twin.minutes(1);
        q.image(1);
        q.minutes(9);
        Check.read(q, "q1,1;b1,0;b1,0;pf1,1,1;");
        q.restore(1);
        for (int minute = 0; minute < 12; minute++) {
            Check.due("lives", q.lives(), twin.lives());
            Check.due("elbows", q.elbows(2), twin.elbows(2));
            Check.due("minutes", q.minutes(1), twin.minutes(1));
            for (int person = 0; person < 7; person++) {
                Check.due("place", q.person(person, 0), twin.person(person, 0));
                Check.due("belief", q.person(person, 3), twin.person(person, 3));
            }
        }
        Check.due("undone to the image", q.count(7), 12);
    }

    private static void imagesAreTwo() {
        Check.sentence("Promise 26: An IMAGE (0, 1) is kept");
        ElbowQueue q = Check.town("q0,0;f99,0;");
        q.image(0);
        q.minutes(1);
        q.image(1);
        q.minutes(1);
        Check.due("restore(0)", q.restore(0), 1);
        Check.due("minute", q.count(3), 0);
        q.minutes(5);
        Check.due("restore(1)", q.restore(1), 1);
        Check.due("minute", q.count(3), 1);
        Check.due("again", q.restore(1), 1);
        Check.due("minute", q.count(3), 1);
        q.minutes(3);
        Check.due("in place of the one before", q.image(0), 1);
        q.minutes(1);
        q.restore(0);
        Check.due("minute", q.count(3), 4);
        q.restore(1);
        Check.due("the other stays", q.count(3), 1);
        Check.read(q, "q3,3;");
        Check.due("a new town leaves them", q.restore(0), 1);
        Check.due("minute", q.count(3), 4);
    }
}
