/** Promises 16 to 27: what is foretold, which changes nothing, and images. */
public final class ForetoldTest extends ForetoldAnswers {
    private static final String EIGHT = "f99,0;f99,0;f99,0;f99,0;f99,0;f99,0;f99,0;f99,0;";

    public static void main(String[] args) {
        promise16and17();
        promise18();
        promise19();
        promise20();
        promise21();
        promise22();
        promise22Sizes();
        promise23();
        promise24();
        promise25();
        promise25Refusals();
        promise26and27();
        nothingChanges();
        fullHouse();
        Check.end();
    }

    private static void promise16and17() {
        ElbowQueue q = Check.town("q0,3;f99,0;d4,0;f99,0;pf9,0,3;pf9,0,9;pf59,0,0;");
        ahead(q, 0, 3, 0, 0, 0, Check.BAD);
        ahead(q, 1, 4, 0, 0, 0);
        ahead(q, 2, 4, 0, 0, 1);
        ahead(q, 3, 3, 1, 1, 1);
        ahead(q, 9, 1, 3, 1, 1);
        ahead(q, 60, 0, 4, 1, 1);
        ahead(q, 61, Check.BAD);
        ahead(q, -1, Check.BAD);
        Check.due("what -1", q.ahead(0, -1), Check.BAD);
        Check.due("order now", q.order(0, 2), 2);
        Check.due("order, the end", q.order(0, 3), Check.NONE);
        Check.due("order in 1", q.order(1, 3), 3);
        Check.due("order in 3", q.order(3, 0), 2);
        Check.due("order in 3", q.order(3, 2), 5);
        Check.due("order in 3", q.order(3, 3), Check.NONE);
        Check.due("order in 60", q.order(60, 0), Check.NONE);
        Check.due("order in 61", q.order(61, 0), Check.BAD);
        Check.due("order in -1", q.order(-1, 0), Check.BAD);
        Check.due("place -1", q.order(0, -1), Check.BAD);
        Check.due("far place", q.order(0, Integer.MAX_VALUE), Check.NONE);
        q.minutes(3);
        q.go(3);
        ahead(q, 0, 2, 1, 2, 1);
        ahead(q, 3, 1, 2, 2, 1);
        Check.due("from now on", q.order(3, 0), 5);
    }

    private static void promise18() {
        lives("q0,0;", 0);
        lives("q0,0;f0,0;", 1);
        lives("q0,2;f9,0;f9,0;", 4);
        lives("q0,0;pf9,0,1;pf9,0,1;", 2);
        lives("q0,0;d0,0;pf9,0,9;pf9,0,9;", 2);
        lives("q0,0;pf0,0,9;pf0,0,0;", 3);
        lives("q0,0;b99,1;", 199);
        lives("q0,0;b99,1;pb99,1,0;", 200);
        lives("q0,0;b99,1;pb99,1,9;pb99,1,0;", Check.NONE);
        lives("q0,0;s99,0;", 199);
        lives("q0,0;s99,1;", Check.NONE);
        ElbowQueue q = Check.town("q0,0;f5,0;");
        q.minutes(2);
        Check.due("from now on", q.lives(), 4);
        q.go(0);
        Check.due("now", q.lives(), 0);
    }

    private static void promise19() {
        words(Check.town("q0,0;b2,0;"), 0, 1, 0);
        words(Check.town("q0,0;b2,3;"), 0, 1, 0);
        words(Check.town("q0,0;s99,2;"), 0, 1, 0);
        words(Check.town("q0,0;d9,1;"), 0, 0, 0);
        words(Check.town("q1,0;f9,1;"), 0, 0, 0);
        ElbowQueue q = Check.town("q0,0;d1,0;b5,0;d1,0;pb9,0,2;");
        words(q, 0, 1, 0);
        words(q, 1, 1, 0);
        words(q, 2, 0, 0);
        words(q, 3, Check.NONE, Check.NONE);
        Check.due("place -1", q.words(-1, 0), Check.BAD);
        Check.due("what 2", q.words(0, 2), Check.BAD);
        Check.due("what -1", q.words(0, -1), Check.BAD);
        Check.due("BAD ahead of NONE", q.words(9, 2), Check.BAD);
        wordsReachOthers();
    }

    /** Words reach others: they are told on ahead of leaving, and who stays is served in another's place. */
    private static void wordsReachOthers() {
        ElbowQueue q = Check.town("q0,0;b0,0;s3,0;");
        Check.due("lives as it is", q.lives(), 7);
        words(q, 0, 1, 0);
        words(q, 1, 1, 0);
        ElbowQueue door = Check.town("q0,4;b1,0;f5,0;");
        Check.due("lives as it is", door.lives(), 4);
        words(door, 0, 0, 0);
        ElbowQueue kept = Check.town("q0,4;b2,0;f5,0;");
        Check.due("he leaves, the other is served", kept.lives(), 4);
        words(kept, 0, 1, 0);
    }

    private static void promise20() {
        ElbowQueue q = Check.town("q0,3;f9,0;d2,0;f9,0;f6,0;pf9,0,9;pf9,0,3;");
        served(q, 0, 3, Check.NONE);
        served(q, 1, Check.NONE, 2);
        served(q, 2, 6, Check.NONE);
        served(q, 3, Check.NONE, 7);
        served(q, 4, Check.NONE, Check.NONE);
        served(q, 5, 9, Check.NONE);
        Check.due("person 6", q.served(6, 0), Check.BAD);
        Check.due("person -1", q.served(-1, 0), Check.BAD);
        Check.due("what 2", q.served(0, 2), Check.BAD);
        Check.due("what -1", q.served(0, -1), Check.BAD);
        q.minutes(3);
        served(q, 0, 0, Check.NONE);
        served(q, 1, Check.NONE, 0);
        served(q, 2, 3, Check.NONE);
        served(q, 4, Check.NONE, Check.NONE);
        q.go(5);
        served(q, 5, Check.NONE, 0);
        ElbowQueue far = Check.town("q0,0;b99,1;pb99,1,0;pb99,1,0;");
        served(far, 0, Check.NONE, 199);
        served(far, 1, Check.NONE, 200);
        served(far, 2, Check.NONE, Check.NONE);
    }

    private static void promise21() {
        int none = Check.NONE;
        spread(Check.town("q0,0;"), none, none, none, none, Check.BAD);
        spread(Check.town("q0,0;b9,0;b9,0;"), 0, none, none, none);
        spread(Check.town("q2,0;f99,0;b99,0;s99,0;b99,0;"), none, none, 3, none);
        spread(Check.town("q0,0;d99,1;w99,2;w99,2;"), none, 2, none, none);
        spread(Check.town("q1,0;b59,0;f99,0;"), none, 60, none, none);
        spread(Check.town("q1,0;b60,0;f99,0;"), none, none, none, none);
        spread(Check.town("q0,0;pd9,3,0;"), none, none, none, 1);
        spread(Check.town("q0,0;b9,1;d0,2;"), none, 1, none, none);
        spread(Check.town("q0,0;d2,3;d4,2;pd9,1,1;"), none, 3, none, none);
        ElbowQueue q = Check.town("q2,0;f99,0;b99,0;s99,0;b99,0;");
        q.minutes(2);
        spread(q, none, none, 1, none);
        Check.due("belief -1", q.spread(-1), Check.BAD);
    }

    private static void promise22() {
        int none = Check.NONE;
        elbows(Check.town("q0,0;"), 0, none, none, none, none, none, none, none, none, Check.BAD);
        ElbowQueue q = Check.town("q0,0;f99,0;pf99,0,3;pf99,0,5;");
        elbows(q, 0, 2, 3, none);
        Check.due("-1", q.elbows(-1), Check.BAD);
        elbows(Check.town("q0,0;f99,0;f99,0;f99,0;f99,0;pf9,0,16;"), 0, 12, none);
        elbows(Check.town("q0,0;f99,0;f99,0;f99,0;pf9,0,16;"), 0, none);
        elbows(Check.town("q0,0;pf99,0,0;pf99,0,1;pf99,0,2;"), 0, 0, 0, 0, none);
        elbows(Check.town("q0,0;d1,0;w0,0;d9,0;d9,0;pf9,0,5;"), 0, 2);
        elbows(Check.town("q1,0;f99,0;pb1,0,2;pf9,0,9;pf9,0,3;"), 0, 1, 1, 7);
        elbows(Check.town("q0,0;f99,0;pb1,0,2;pf9,0,9;pf9,0,3;"), 0, 1, 2, 7);
        elbows(Check.town("q1,0;f99,0;pb0,0,3;pf9,0,9;pf9,0,9;"), 0, 2, 8, 8);
        elbows(Check.town("q1,0;f99,0;pb1,0,4;pf9,0,16;pf9,0,5;"), 0, 3, 4, none);
        ElbowQueue later = Check.town("q0,0;f99,0;pf99,0,1;pf99,0,3;pf99,0,3;");
        later.minutes(1);
        elbows(later, 0, 1, 1, none);
    }

    /** 12 elbows stand behind 8 waiters, and 8 passers come; the door takes one a minute. */
    private static void promise22Sizes() {
        String passers = "pf99,0,16;pf99,0,16;pf99,0,16;pf99,0,16;pf99,0,16;pf99,0,16;pf99,0,16;pf99,0,16;";
        elbows(Check.town("q0,0;" + EIGHT + passers), 0, 8, 8, 8, 8, 8, 8, 8, 8);
        elbows(Check.town("q0,1;" + EIGHT + passers), 0, 9, 9, 9, 9, 9, 9, 9, 9);
        String needs = "pf99,0,15;pf99,0,15;pf99,0,16;pf99,0,16;pf99,0,16;pf99,0,16;pf99,0,16;pf99,0,16;";
        elbows(Check.town("q0,1;" + EIGHT + needs), 0, 8, 8, 9, 9, 9, 9, 9, 9);
    }

    private static void promise23() {
        ElbowQueue q = Check.town("q0,0;f99,0;pf99,0,1;pf99,0,2;pf99,0,3;");
        odds(q, 1, 0, 5, 1, 1);
        odds(q, 2, 0, 5, 0, 1);
        odds(q, 2, 1, 5, 1, 2);
        odds(q, 3, 2, 5, 1, 4);
        odds(q, 4, 3, 5, 1, 8);
        odds(q, 4, 8, 5, 1, 8);
        odds(q, 2, 8, 3, 3, 10);
        odds(q, 3, 8, 3, 9, 100);
        odds(q, 4, 3, 4, 8, 125);
        odds(q, 4, 3, 10, 1, 1);
        odds(q, 2, 3, 0, 0, 1);
        odds(q, 0, 8, 7, 1, 1);
        odds(q, 16, 8, 10, 0, 1);
        ElbowQueue free = Check.town("q0,0;pf9,0,0;pf9,0,0;pf9,0,0;pf9,0,0;pf9,0,0;pf9,0,0;pf9,0,0;pf9,0,0;");
        odds(free, 8, 8, 9, 43046721, 100000000);
        odds(free, 1, 8, 1, 56953279, 100000000);
        odds(free, 4, 8, 5, 163, 256);
        odds(free, 1, 2, 5, 3, 4);
        growsRefused(free);
    }

    private static void growsRefused(ElbowQueue q) {
        Check.due("k 17", q.grows(17, 0, 0, 0), Check.BAD);
        Check.due("k -1", q.grows(-1, 0, 0, 0), Check.BAD);
        Check.due("n 9", q.grows(0, 9, 0, 0), Check.BAD);
        Check.due("n -1", q.grows(0, -1, 0, 0), Check.BAD);
        Check.due("c 11", q.grows(0, 0, 11, 0), Check.BAD);
        Check.due("c -1", q.grows(0, 0, -1, 0), Check.BAD);
        Check.due("what 2", q.grows(0, 0, 0, 2), Check.BAD);
        Check.due("what -1", q.grows(0, 0, 0, -1), Check.BAD);
    }

    private static void promise24() {
        ElbowQueue one = Check.town("q0,0;f5,0;");
        opens(one, 1, 5, 1);
        opens(one, 2, 5, 1);
        opens(one, 4, 3, 1);
        opens(one, 7, 30, 0);
        opens(one, 6, 5, 1);
        ElbowQueue eight = Check.town("q0,0;" + EIGHT);
        opens(eight, 9, 8, 6);
        opens(eight, 1, 30, 8);
        opens(eight, 6, 17, 8);
        opens(Check.town("q0,0;f9,0;pf2,0,1;pf9,0,9;"), 1, 2, 2);
        opens(Check.town("q0,9;f5,0;pf40,0,9;pf40,0,0;pf4,0,0;"), 8, 30, 1);
        ElbowQueue slow = Check.town("q0,1;" + EIGHT);
        opens(slow, 9, 30, 8);
        slow.minutes(3);
        opens(slow, 1, 30, 5);
        ElbowQueue late = Check.town("q0,0;" + EIGHT);
        late.minutes(5);
        opens(late, 9, 3, 7);
        Check.due("s 0", late.opens(0, 0), Check.BAD);
        Check.due("s 10", late.opens(10, 0), Check.BAD);
        Check.due("what 2", late.opens(1, 2), Check.BAD);
        Check.due("what -1", late.opens(1, -1), Check.BAD);
    }

    private static void promise25() {
        ElbowQueue q = Check.town("q0,2;f9,0;f9,0;d4,0;pf9,0,0;pf9,0,0;");
        int[] items = {0, 1, 2, 3, 4, 1, 3, 4};
        for (int lane = 0; lane < 3; lane++) {
            q.row(lane, lane, 40);
            for (int i = 0; i < items.length; i++) {
                q.set(lane, i + lane, items[i]);
            }
            Check.due("now", q.seen(lane, lane, 3), 0);
            Check.due("in 1", q.seen(lane, lane, 4), 1);
            Check.due("in 2", q.seen(lane, lane + 1, 4), 2);
            Check.due("in 3", q.seen(lane, lane + 5, 3), 3);
            Check.due("in 4", q.seen(lane, lane + 3, 2), 4);
            Check.due("in 6", q.seen(lane, lane + 4, 1), 6);
            Check.due("nobody, in 8", q.seen(lane, 40, 0), 8);
            Check.due("never", q.seen(lane, lane + 1, 3), Check.NONE);
            q.set(lane, lane, 4);
            Check.due("another at the door", q.seen(lane, lane, 3), Check.NONE);
        }
        ElbowQueue far = Check.town("q0,0;b99,1;pb99,1,0;pb99,1,9;");
        far.row(0, 0, 0);
        Check.due("200", far.seen(0, 0, 0), 200);
        ElbowQueue farther = Check.town("q0,0;b99,1;pb99,1,9;pb99,1,0;");
        farther.row(0, 0, 0);
        Check.due("201", farther.seen(0, 0, 0), Check.NONE);
        ElbowQueue between = Check.town("q0,0;d0,0;pd4,0,9;pd4,0,0;");
        between.row(0, 0, 0);
        Check.due("nobody at first, passers to come", between.seen(0, 0, 0), 1);
    }

    private static void promise25Refusals() {
        ElbowQueue q = Check.town("q0,2;f9,0;f9,0;");
        q.row(0, 0, 20);
        Check.due("row 8", q.seen(8, 0, 0), Check.BAD);
        Check.due("row -1", q.seen(-1, 0, 0), Check.BAD);
        Check.due("n 17", q.seen(0, 0, 17), Check.BAD);
        Check.due("n -1", q.seen(0, 0, -1), Check.BAD);
        Check.due("n 16", q.seen(0, 0, 16), Check.NONE);
        Check.due("BAD ahead of NULL", q.seen(1, 0, 17), Check.BAD);
        Check.due("missing", q.seen(1, -1, 0), Check.NULL);
        Check.due("from -1", q.seen(0, -1, 1), Check.PLACE);
        Check.due("from 21", q.seen(0, 21, 0), Check.PLACE);
        Check.due("from 20", q.seen(0, 20, 1), Check.PLACE);
        Check.due("far", q.seen(0, Integer.MAX_VALUE, 16), Check.PLACE);
        q.set(0, 19, 2);
        q.set(0, 18, -1);
        Check.due("PLACE ahead of the items", q.seen(0, 19, 2), Check.PLACE);
        Check.due("2 is nobody", q.seen(0, 19, 1), Check.BAD);
        Check.due("-1 is nobody", q.seen(0, 17, 2), Check.BAD);
        Check.due("twice the same", q.seen(0, 0, 2), Check.NONE);
    }

    private static void promise26and27() {
        ElbowQueue q = Check.town("q1,2;f9,0;b8,0;pd7,3,0;");
        Check.due("none was kept", q.restore(0), Check.STATE);
        q.minutes(1);
        Check.due("image 0", q.image(0), 1);
        Check.due("acts stay", q.count(7), 1);
        Check.due("none there", q.restore(1), Check.STATE);
        q.minutes(1);
        Check.due("image 1", q.image(1), 1);
        Check.due("another town", Check.read(q, "q0,0;w1,1;"), 1);
        q.say(0, 2);
        Check.due("restore 0", q.restore(0), 1);
        Check.counts(q, "restored 0", 0, 3, 1, 1, 3, 1, 2, 0, 0);
        Check.inQueue(q, "restored 0", 0, 1, 2);
        Check.person(q, "restored 0", 1, 1, 1, 1, 1, 8, 0);
        Check.due("kinds", q.kind(2), 5);
        Check.due("no act", q.undo(), Check.STATE);
        q.minutes(3);
        Check.due("restore 1", q.restore(1), 1);
        Check.inQueue(q, "restored 1", 1, 2);
        Check.due("minute", q.count(3), 2);
        Check.due("the image stays", q.restore(0), 1);
        Check.inQueue(q, "restored again", 0, 1, 2);
        q.go(1);
        Check.due("in place of it", q.image(1), 1);
        q.minutes(1);
        q.restore(1);
        Check.inQueue(q, "in place of it", 0, 2);
        Check.due("image 2", q.image(2), Check.BAD);
        Check.due("image -1", q.image(-1), Check.BAD);
        Check.due("restore 2", q.restore(2), Check.BAD);
        Check.due("restore -1", q.restore(-1), Check.BAD);
    }

    private static void nothingChanges() {
        ElbowQueue q = Check.town("q1,2;f9,0;b3,0;d8,1;pw5,0,1;ps5,0,2;");
        q.minutes(1);
        q.row(0, 0, 4);
        q.ahead(60, 1);
        q.order(30, 0);
        q.lives();
        q.words(1, 0);
        q.served(3, 0);
        q.spread(1);
        q.elbows(2);
        q.grows(2, 8, 5, 0);
        q.opens(1, 0);
        q.seen(0, 0, 2);
        Check.counts(q, "foretold", 1, 5, 2, 1, 4, 1, 2, 1, 0);
        Check.inQueue(q, "foretold", 0, 1, 2, 3);
        Check.person(q, "foretold", 1, 1, 1, 1, 1, 3, 0);
        Check.person(q, "foretold", 4, Check.NONE, 0, 0, 0, 5, 4);
    }

    /** All 16 are in the queue: nothing may run over an end. */
    private static void fullHouse() {
        ElbowQueue q = Check.town("q0,0;" + EIGHT + "pf99,0,0;pf99,0,0;pf99,0,0;pf99,0,0;pf99,0,0;pf99,0,0;pf99,0,0;pf99,0,0;");
        Check.due("12 elbows and all", q.elbows(8), 0);
        odds(q, 16, 8, 5, 1, 256);
        ahead(q, 8, 16, 0, 0, 0);
        Check.due("all join", q.minutes(8), 16);
        Check.inQueue(q, "all", 0, 1, 2, 3, 4, 5, 6, 7, 8, 9, 10, 11, 12, 13, 14, 15);
        spread(q, 0, Check.NONE, Check.NONE, Check.NONE);
        opens(q, 1, 30, 16);
        opens(q, 9, 0, 7);
        Check.due("no more passers", q.elbows(1), Check.NONE);
        odds(q, 16, 8, 0, 1, 1);
        Check.due("lives", q.lives(), 100);
        Check.due("the last", q.order(60, 15), 15);
        words(q, 15, 0, 0);
        q.row(0, 0, 16);
        for (int i = 0; i < 16; i++) {
            q.set(0, i, i);
        }
        Check.due("seen", q.seen(0, 0, 16), 0);
        Check.due("the last goes", q.go(15), 15);
        Check.due("seen no more", q.seen(0, 0, 16), Check.NONE);
        q.undo();
        Check.due("the first goes", q.go(0), 15);
        q.undo();
        q.hatch(0, 1);
        Check.due("served", q.minutes(16), 0);
    }
}
