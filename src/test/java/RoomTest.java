import java.lang.management.ManagementFactory;

/** All calls live in one room: calls make nothing, and the constructor makes little. */
public final class RoomTest {
    private static final String BIG = "q1,7;s99,1;w99,2;b99,0;w99,3;s99,0;b99,1;w99,2;s99,3;"
        + "pw99,0,1;pw99,0,1;pw99,0,1;pw99,0,1;pw99,0,1;pw99,0,1;pw99,0,1;pw99,0,1;";
    private static final long MOST_BYTES = 40_000;

    private static long sum;

    public static void main(String[] args) {
        ElbowQueue warm = Check.town(BIG);
        allCalls(warm);
        long start = bytes();
        ElbowQueue q = new ElbowQueue();
        long made = bytes() - start;
        Check.isTrue("a new object takes " + made + " bytes", made <= MOST_BYTES);
        for (int i = 0; i < BIG.length(); i++) {
            q.feed(BIG.charAt(i));
        }
        bytes();
        start = bytes();
        long ofAsking = bytes() - start;
        start = bytes();
        sum += q.town();
        allCalls(q);
        long called = bytes() - start - ofAsking;
        Check.due("bytes made by calls", (int) called, 0);
        Check.isTrue("answers are used", sum != 0);
        Check.end();
    }

    private static long bytes() {
        com.sun.management.ThreadMXBean threads =
            (com.sun.management.ThreadMXBean) ManagementFactory.getThreadMXBean();
        return threads.getCurrentThreadAllocatedBytes();
    }

    private static void allCalls(ElbowQueue q) {
        sum += q.row(0, 0, 40) + q.row(1, 0, 40) + q.set(0, 0, 1) + q.copy(0, 0, 1, 0, 40) + q.drop(1);
        sum += q.fault() + q.minutes(3) + q.say(1, 2) + q.go(2) + q.hatch(2, 0) + q.undo();
        for (int what = 0; what < 6; what++) {
            sum += q.person(3, what) + q.place(what) + q.ahead(60, what) + q.order(60, what) + q.count(what);
            sum += q.words(what, what & 1) + q.served(what, what & 1) + q.spread(what) + q.elbows(what + 3);
            sum += q.ask(what, what & 1) + q.trace(what) + q.kind(what) + q.as(what, what) + q.opens(what, 0);
        }
        sum += q.lives() + q.grows(9, 8, 5, 0) + q.seen(0, 1, 1) + q.image(0) + q.restore(0) + q.status();
    }
}
