/** Promises 28 to 32: kinds, asks and their trace, counts. */
public final class AskedTest {
    private static final String ALL = "q2,0;b30,1;w30,2;s30,3;f30,0;d30,1;pb30,0,9;pw30,3,9;ps30,0,9;pf30,0,9;pd30,3,9;";

    public static void main(String[] args) {
        promise28();
        promise29();
        sizes();
        marks();
        traces();
        promise30Refusals();
        promise32();
        Check.end();
    }

    private static void promise28() {
        ElbowQueue q = Check.town(ALL);
        for (int person = 0; person < 10; person++) {
            Check.due("kind(" + person + ")", q.kind(person), person % 5 + 1);
        }
        Check.due("kind(10)", q.kind(10), Check.BAD);
        Check.due("kind(-1)", q.kind(-1), Check.BAD);
    }

    private static void promise29() {
        String[] kinds = {"01", "012", "013", "04", "045"};
        ElbowQueue q = Check.town(ALL);
        for (int person = 0; person < 10; person++) {
            for (int kind = 0; kind <= 5; kind++) {
                boolean is = kinds[person % 5].indexOf('0' + kind) >= 0;
                String call = "as(" + person + ", " + kind + ")";
                Check.due(call, q.as(person, kind), is ? person : Check.KIND);
                Check.due("status behind " + call, q.status(), is ? 0 : 3);
            }
        }
        Check.due("kind 6", q.as(0, 6), Check.BAD);
        Check.due("kind -1", q.as(0, -1), Check.BAD);
        Check.due("person 10", q.as(10, 0), Check.BAD);
        Check.due("person -1", q.as(-1, 0), Check.BAD);
    }

    private static void asks(ElbowQueue q, int what, int... want) {
        for (int person = 0; person < want.length; person++) {
            Check.due("ask(" + person + ", " + what + ")", q.ask(person, what), want[person]);
        }
    }

    /** At minute 7 the waiters have stood 7; 1 believes 1 of person 0, the first one and its passer what cause is. */
    private static void sizes() {
        ElbowQueue q = Check.town(ALL);
        asks(q, 0, 1, -6, -995, -100, -200, 5, -18, -993, -100, -200);
        q.minutes(7);
        asks(q, 0, 7 + 1, -(7 + 4), 7 + 5 - 1000, -93, -186, 5, -18, -993, -100, -200);
    }

    private static void marks() {
        ElbowQueue q = Check.town(ALL);
        asks(q, 1, 1, 6, 5 - 1000, 103, 204, 5, 18, 7 - 1000, 108, 209);
        q.minutes(7);
        asks(q, 1, 1, 4, 5 - 1000, 3 + 93, 4 + 186, 5, 18, 7 - 1000, 108, 209);
        q.hatch(3, 0);
        asks(q, 1, 1, 4, 5 - 1000, 3 + 93, 4 + 186);
    }

    private static void traced(ElbowQueue q, int person, int what, int... want) {
        q.ask(person, what);
        String call = "ask(" + person + ", " + what + ") trace(";
        for (int i = 0; i < want.length; i++) {
            Check.due(call + i + ")", q.trace(i), want[i]);
        }
        for (int i = want.length; i < 20; i++) {
            Check.due(call + i + ")", q.trace(i), Check.NONE);
        }
        Check.due(call + "-1)", q.trace(-1), Check.NONE);
    }

    private static void traces() {
        ElbowQueue q = Check.town(ALL);
        traced(q, 0, 0, 11, 10, 21, 20);
        traced(q, 1, 0, 12, 11, 10, 24, 21, 20);
        traced(q, 2, 0, 11, 10, 22, 21, 20);
        traced(q, 3, 0, 13, 10);
        traced(q, 4, 0, 14, 13, 10);
        traced(q, 0, 1, 21, 20);
        traced(q, 1, 1, 24, 21, 20);
        traced(q, 2, 1, 22, 21, 20);
        traced(q, 3, 1, 23, 20, 13, 10);
        traced(q, 4, 1, 23, 20, 14, 13, 10);
        Check.due("far", q.trace(Integer.MAX_VALUE), Check.NONE);
        Check.due("far below", q.trace(Integer.MIN_VALUE), Check.NONE);
    }

    private static void promise30Refusals() {
        ElbowQueue q = Check.town(ALL);
        q.ask(4, 0);
        Check.due("what 2", q.ask(0, 2), Check.BAD);
        Check.due("what -1", q.ask(0, -1), Check.BAD);
        Check.due("person 10", q.ask(10, 0), Check.BAD);
        Check.due("person -1", q.ask(-1, 0), Check.BAD);
        Check.due("what is refused leaves the trace", q.trace(0), 14);
        Check.due("what is refused leaves the trace", q.trace(2), 10);
    }

    private static void promise32() {
        ElbowQueue q = Check.town("q2,1;b30,1;w30,2;pb30,0,9;pw30,3,9;ps30,0,9;");
        q.row(0, 0, 0);
        q.row(5, 1, 1);
        q.feed('q');
        q.minutes(1);
        q.hatch(1, 7);
        Check.counts(q, "counted", 2, 5, 3, 1, 1, 1, 7, 2, 1, Check.BAD);
        Check.due("count(-1)", q.count(-1), Check.BAD);
    }
}
