/** Promises 9 to 15: minutes and acts, undone too, and where people are. */
public final class ActsTest {
    public static void main(String[] args) {
        toldOn();
        whoTakesOn();
        servedAtTheDoor();
        bears();
        crowd();
        passers();
        firstOnes();
        promise9Refusals();
        promise10();
        promise11();
        promise12();
        promise13();
        promise13Ring();
        promise14and15();
        Check.end();
    }

    private static void toldOn() {
        ElbowQueue q = Check.town("q1,0;f99,0;b99,0;s99,0;b99,0;");
        Check.due("a minute", q.minutes(1), 4);
        Check.belief(q, "minute 1", 1, 1, 0);
        Check.belief(q, "minute 1", 2, 0, 2);
        Check.belief(q, "minute 1", 3, 0, 3);
        q.minutes(1);
        Check.belief(q, "minute 2", 2, 1, 0);
        Check.belief(q, "minute 2", 3, 0, 3);
        q.minutes(1);
        Check.belief(q, "minute 3", 3, 1, 0);
        ElbowQueue w = Check.town("q0,0;b99,1;w99,2;w99,3;w99,0;");
        w.minutes(1);
        Check.belief(w, "minute 1", 0, 1, 0);
        Check.belief(w, "minute 1", 1, 1, 0);
        Check.belief(w, "minute 1", 2, 2, 1);
        Check.belief(w, "minute 1", 3, 3, 2);
        w.minutes(1);
        Check.belief(w, "minute 2", 2, 1, 0);
        Check.belief(w, "minute 2", 3, 2, 1);
    }

    private static void whoTakesOn() {
        ElbowQueue q = Check.town("q3,0;d99,1;b99,2;s99,3;f99,0;d99,2;d99,0;w99,1;b99,0;");
        q.minutes(1);
        Check.belief(q, "believes something", 1, 2, 1);
        Check.belief(q, "a sunk one that believes something", 2, 3, 2);
        Check.belief(q, "a first one", 3, 3, 3);
        Check.belief(q, "a doubter", 4, 2, 4);
        Check.belief(q, "a doubter of nothing", 5, 0, 5);
        Check.belief(q, "nothing is not told on", 6, 1, 6);
        Check.belief(q, "of a follower", 7, 1, 6);
        ElbowQueue same = Check.town("q0,0;b99,2;w99,2;");
        same.minutes(1);
        Check.belief(same, "a follower takes on the same, too", 1, 2, 0);
    }

    private static void servedAtTheDoor() {
        ElbowQueue q = Check.town("q0,2;f99,0;f99,0;f99,0;");
        Check.due("minute 1", q.minutes(1), 3);
        Check.due("minute 2", q.minutes(1), 2);
        Check.person(q, "served", 0, Check.NONE, 2, 1);
        Check.inQueue(q, "minute 2", 1, 2);
        Check.due("minutes 3 to 6", q.minutes(4), 0);
        Check.due("nobody to serve", q.minutes(2), 0);
        ElbowQueue never = Check.town("q0,0;f99,0;");
        Check.due("never", never.minutes(20), 1);
        ElbowQueue told = Check.town("q0,1;b99,1;b9,0;");
        told.minutes(1);
        Check.belief(told, "told on ahead of serving", 1, 1, 0);
        ElbowQueue last = Check.town("q0,1;d0,0;");
        last.minutes(1);
        Check.due("served ahead of leaving", last.person(0, 1), 2);
    }

    /** The last minute with one in the queue, and the one when he leaves. */
    private static void leavesAt(String town, int person, int minute) {
        ElbowQueue q = Check.town(town);
        for (int n = 1; n < minute; n++) {
            q.minutes(1);
        }
        Check.due(town + " ahead of " + minute, q.person(person, 1), 1);
        q.minutes(1);
        Check.due(town + " at " + minute, q.person(person, 1), 3);
        Check.due(town + " has stood", q.person(person, 2), minute);
    }

    private static void bears() {
        leavesAt("q1,0;f3,0;", 0, 4);
        leavesAt("q0,0;b3,0;", 0, 4);
        leavesAt("q0,0;b3,1;", 0, 7);
        leavesAt("q0,0;w3,0;", 0, 4);
        leavesAt("q0,0;w3,2;", 0, 7);
        leavesAt("q0,0;s3,0;", 0, 7);
        leavesAt("q0,0;s3,3;", 0, 13);
        leavesAt("q0,0;s4,0;", 0, 9);
        leavesAt("q0,0;d7,0;", 0, 4);
        leavesAt("q0,0;d7,3;", 0, 4);
        leavesAt("q0,0;d6,0;", 0, 4);
        leavesAt("q0,0;d1,0;", 0, 1);
        leavesAt("q0,0;f0,0;", 0, 1);
        leavesAt("q0,0;s0,0;", 0, 1);
        leavesAt("q0,0;s1,0;", 0, 3);
        leavesAt("q0,0;d9,1;b3,0;", 1, 7);
        leavesAt("q0,0;d9,0;b2,0;", 1, 3);
        ElbowQueue q = Check.town("q0,0;f0,0;f9,0;f0,0;f9,0;");
        Check.due("all at once", q.minutes(1), 2);
        Check.inQueue(q, "all at once", 1, 3);
    }

    private static void crowd() {
        ElbowQueue five = Check.town("q0,0;w0,0;f99,0;f99,0;f99,0;f99,0;");
        Check.due("5 are no crowd", five.minutes(1), 4);
        ElbowQueue six = Check.town("q0,0;w0,0;f99,0;f99,0;f99,0;f99,0;f99,0;");
        Check.due("6 are", six.minutes(20), 6);
        ElbowQueue served = Check.town("q0,1;f99,0;w0,0;f99,0;f99,0;f99,0;f99,0;");
        Check.due("counted behind serving", served.minutes(1), 4);
        ElbowQueue leaving = Check.town("q0,0;d0,0;w0,0;f99,0;f99,0;f99,0;f99,0;");
        Check.due("counted ahead of leaving", leaving.minutes(1), 5);
        Check.inQueue(leaving, "counted ahead of leaving", 1, 2, 3, 4, 5);
        Check.due("5 then", leaving.minutes(1), 4);
        ElbowQueue others = Check.town("q0,0;b0,0;f99,0;f99,0;f99,0;f99,0;f99,0;");
        Check.due("none but followers", others.minutes(1), 5);
    }

    private static void passers() {
        ElbowQueue q = Check.town("q0,0;f99,0;d5,0;pb9,2,2;pb9,0,4;pf9,0,3;pd9,1,0;");
        Check.due("need met", q.minutes(1), 3);
        Check.inQueue(q, "need met", 0, 1, 2);
        Check.person(q, "joined", 2, 2, 1, 0, 2, 9, 2);
        Check.due("need not met", q.minutes(1), 3);
        Check.person(q, "by", 3, Check.NONE, 4, 0);
        Check.person(q, "has stood", 2, 2, 1, 1);
        Check.due("counted behind leaving", q.minutes(1), 2);
        Check.person(q, "by", 4, Check.NONE, 4, 0);
        Check.due("no need", q.minutes(1), 3);
        Check.inQueue(q, "no need", 0, 2, 5);
        Check.due("no more", q.minutes(1), 3);
        ElbowQueue empty = Check.town("q0,0;pb9,0,0;pb9,0,1;pb9,0,3;");
        Check.due("the first", empty.minutes(1), 1);
        Check.due("the second", empty.minutes(1), 2);
        Check.due("the third", empty.minutes(1), 2);
        ElbowQueue served = Check.town("q0,1;f99,0;f99,0;pf99,0,2;");
        Check.due("counted behind serving", served.minutes(1), 1);
    }

    private static void firstOnes() {
        ElbowQueue q = Check.town("q2,0;f99,0;b99,0;d99,1;pf9,1,0;");
        Check.due("what cause is", q.person(0, 3), 2);
        Check.due("a passer, too", q.person(3, 3), 2);
        Check.due("a doubter not", q.person(2, 3), 1);
        Check.due("said", q.say(0, 3), 2);
        Check.belief(q, "whatever is said", 0, 2, 0);
        q.hatch(1, 0);
        Check.due("the hatch", q.person(0, 3), 1);
        Check.due("to a passer", q.person(3, 3), 1);
        q.minutes(1);
        Check.belief(q, "told on", 1, 1, 0);
        q.hatch(3, 0);
        Check.belief(q, "what was told on stays", 1, 1, 0);
        q.go(0);
        Check.due("gone", q.person(0, 3), 3);
        ElbowQueue none = Check.town("q0,0;f9,3;b9,0;");
        none.minutes(1);
        Check.belief(none, "no cause", 0, 0, 0);
        Check.belief(none, "nothing told on", 1, 0, 1);
    }

    private static void promise9Refusals() {
        ElbowQueue q = Check.town("q0,0;s99,1;");
        Check.due("0", q.minutes(0), Check.BAD);
        Check.due("-1", q.minutes(-1), Check.BAD);
        Check.due("21", q.minutes(21), Check.BAD);
        Check.due("no minute went by", q.count(3), 0);
        for (int n = 0; n < 49; n++) {
            q.minutes(20);
        }
        Check.due("980", q.count(3), 980);
        Check.due("1000 is beyond", q.minutes(20), Check.FULL);
        Check.due("BAD ahead of FULL", q.minutes(21), Check.BAD);
        Check.due("980 still", q.count(3), 980);
        Check.due("999 is not", q.minutes(19), 0);
        Check.due("999", q.count(3), 999);
        Check.due("one more", q.minutes(1), Check.FULL);
        q.undo();
        Check.due("998", q.count(3), 998);
        Check.due("again", q.minutes(1), 0);
    }

    private static void promise10() {
        ElbowQueue q = Check.town("q0,0;b9,1;d9,2;w9,0;pb9,0,9;");
        Check.due("said", q.say(0, 3), 1);
        Check.belief(q, "said", 0, 3, 0);
        Check.due("said to a doubter", q.say(1, 0), 2);
        Check.belief(q, "said to a doubter", 1, 0, 1);
        Check.due("acts", q.count(7), 2);
        q.say(1, 2);
        q.minutes(1);
        Check.belief(q, "told on", 2, 2, 1);
        Check.due("said by himself", q.say(2, 2), 2);
        Check.belief(q, "said by himself", 2, 2, 2);
        Check.due("belief 4", q.say(0, 4), Check.BAD);
        Check.due("belief -1", q.say(0, -1), Check.BAD);
        Check.due("person 4", q.say(4, 0), Check.BAD);
        Check.due("person -1", q.say(-1, 0), Check.BAD);
        Check.due("not in the queue", q.say(3, 0), Check.STATE);
        Check.due("BAD ahead of STATE", q.say(3, 4), Check.BAD);
        Check.due("acts then", q.count(7), 5);
    }

    private static void promise11() {
        ElbowQueue q = Check.town("q0,0;b9,1;d9,2;w9,0;pb9,0,2;");
        q.minutes(1);
        Check.due("the second", q.go(1), 3);
        Check.inQueue(q, "the second", 0, 2, 3);
        Check.person(q, "left", 1, Check.NONE, 3, 1, 2);
        Check.due("gone already", q.go(1), Check.STATE);
        Check.due("the last", q.go(3), 2);
        Check.due("the first", q.go(0), 1);
        Check.due("nobody then", q.go(2), 0);
        Check.due("person 4", q.go(4), Check.BAD);
        Check.due("person -1", q.go(-1), Check.BAD);
        Check.due("acts", q.count(7), 5);
        ElbowQueue toCome = Check.town("q0,0;pb9,0,2;");
        Check.due("to come", toCome.go(0), Check.STATE);
    }

    private static void promise12() {
        ElbowQueue q = Check.town("q1,4;f9,0;f9,0;");
        Check.due("as they were", q.hatch(3, 1), 14);
        Check.counts(q, "hatch", 0, 2, 0, 0, 2, 3, 1, 1, 0);
        Check.due("served", q.minutes(1), 1);
        Check.due("once more", q.hatch(0, 0), 31);
        Check.due("edges", q.hatch(3, 9), 0);
        Check.due("cause 4", q.hatch(4, 0), Check.BAD);
        Check.due("cause -1", q.hatch(-1, 0), Check.BAD);
        Check.due("serves 10", q.hatch(0, 10), Check.BAD);
        Check.due("serves -1", q.hatch(0, -1), Check.BAD);
        Check.due("the edges stay", q.hatch(1, 2), 39);
        Check.due("the same is an act, too", q.hatch(1, 2), 12);
        Check.due("acts", q.count(7), 6);
    }

    private static void promise13() {
        ElbowQueue q = Check.town("q1,2;f9,0;b3,0;d0,1;pw5,0,1;");
        Check.due("none", q.undo(), Check.STATE);
        q.minutes(2);
        q.hatch(2, 0);
        q.say(1, 3);
        q.go(1);
        Check.due("go undone", q.undo(), 4);
        Check.inQueue(q, "go undone", 1, 3);
        Check.belief(q, "go undone", 1, 3, 1);
        Check.due("say undone", q.undo(), 3);
        Check.belief(q, "say undone", 1, 1, 0);
        Check.due("hatch undone", q.undo(), 2);
        Check.counts(q, "hatch undone", 0, 4, 1, 2, 2, 1, 2, 2, 0);
        Check.due("minute undone", q.undo(), 1);
        Check.inQueue(q, "minute undone", 0, 1, 3);
        Check.person(q, "minute undone", 2, Check.NONE, 3, 1);
        Check.person(q, "minute undone", 0, 0, 1, 1, 1);
        Check.due("minute undone", q.undo(), 0);
        Check.inQueue(q, "at first", 0, 1, 2);
        Check.person(q, "at first", 3, Check.NONE, 0, 0, 0, 5, 3);
        Check.belief(q, "at first", 1, 0, 1);
        Check.counts(q, "at first", 0, 4, 1, 0, 3, 1, 2, 0, 0);
        Check.due("none more", q.undo(), Check.STATE);
        Check.due("goes on", q.minutes(1), 3);
    }

    private static void promise13Ring() {
        ElbowQueue q = Check.town("q0,0;f99,0;");
        q.minutes(20);
        Check.due("20", q.count(7), 20);
        q.minutes(4);
        Check.due("24", q.count(7), 24);
        q.minutes(1);
        Check.due("24 at most", q.count(7), 24);
        q.minutes(5);
        for (int left = 23; left >= 0; left--) {
            Check.due("undo", q.undo(), left);
            Check.due("minute", q.count(3), left + 6);
            Check.due("stood", q.person(0, 2), left + 6);
        }
        Check.due("forgotten", q.undo(), Check.STATE);
        q.minutes(2);
        Check.due("2 more", q.count(7), 2);
        q.undo();
        Check.due("minute 7", q.count(3), 7);
    }

    private static void promise14and15() {
        ElbowQueue q = Check.town("q2,3;d0,1;b7,0;w6,3;s5,0;pf4,1,9;pb3,0,0;");
        q.minutes(3);
        Check.person(q, "left", 0, Check.NONE, 3, 1, 1, 0, 0);
        Check.person(q, "served", 1, Check.NONE, 2, 2, 1, 7, 0);
        Check.person(q, "in the queue", 2, 0, 1, 3, 1, 6, 0);
        Check.person(q, "by", 4, Check.NONE, 4, 0, 2, 4, 4);
        Check.person(q, "joined", 5, 2, 1, 1, 3, 3, 2);
        Check.due("what 6", q.person(0, 6), Check.BAD);
        Check.due("what -1", q.person(0, -1), Check.BAD);
        Check.due("person 6", q.person(6, 0), Check.BAD);
        Check.due("person -1", q.person(-1, 0), Check.BAD);
        Check.inQueue(q, "places", 2, 3, 5);
        Check.due("far", q.place(Integer.MAX_VALUE), Check.NONE);
        Check.due("below", q.place(-1), Check.BAD);
        Check.due("far below", q.place(Integer.MIN_VALUE), Check.BAD);
    }
}
