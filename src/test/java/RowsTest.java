/** Promises 2 to 5 and 33: rows, and the status that they leave. */
public final class RowsTest {
    private static final String EIGHT = "q0,0;f99,0;f99,0;f99,0;f99,0;f99,0;f99,0;f99,0;f99,0;";

    public static void main(String[] args) {
        promise2();
        promise3();
        promise4();
        promise4Refusals();
        promise5();
        promise33();
        Check.end();
    }

    private static void promise2() {
        ElbowQueue q = Check.town("q0,0;f99,0;");
        Check.due("row 0", q.row(0, 0, 0), 0);
        Check.due("row 7", q.row(7, 2, 40), 40);
        Check.due("rows", q.count(0), 2);
        Check.due("row in its own place", q.row(7, 1, 3), 3);
        Check.due("rows still", q.count(0), 2);
        Check.due("beyond the new end", q.set(7, 3, 1), Check.PLACE);
        Check.due("row -1", q.row(-1, 0, 1), Check.BAD);
        Check.due("row 8", q.row(8, 0, 1), Check.BAD);
        Check.due("lane -1", q.row(1, -1, 1), Check.BAD);
        Check.due("lane 3", q.row(1, 3, 1), Check.BAD);
        Check.due("41 items", q.row(1, 0, 41), Check.BAD);
        Check.due("most items", q.row(1, 0, Integer.MAX_VALUE), Check.BAD);
        Check.due("BAD ahead of SIZE, row", q.row(8, 0, -1), Check.BAD);
        Check.due("BAD ahead of SIZE, lane", q.row(1, 3, -1), Check.BAD);
        Check.due("fewer than none", q.row(1, 0, -1), Check.SIZE);
        Check.due("fewest", q.row(1, 0, Integer.MIN_VALUE), Check.SIZE);
        Check.due("still missing", q.set(1, 0, 0), Check.NULL);
        Check.due("what is found leaves the row", q.row(7, 0, -1), Check.SIZE);
        Check.due("the row is there", q.set(7, 2, 70000), 4464);
        zeroAtFirst(q);
    }

    /** An item shows itself by seen(): the queue is just person 0. */
    private static void zeroAtFirst(ElbowQueue q) {
        q.row(3, 0, 2);
        Check.due("0 at first", q.seen(3, 1, 1), 0);
        q.set(3, 1, 9);
        Check.due("9 is nobody", q.seen(3, 1, 1), Check.BAD);
        q.row(3, 0, 2);
        Check.due("0 again", q.seen(3, 1, 1), 0);
        q.set(3, 0, 9);
        q.row(3, 2, 1);
        Check.due("0 again, the first one", q.seen(3, 0, 1), 0);
    }

    private static void promise3() {
        ElbowQueue q = new ElbowQueue();
        q.row(0, 0, 3);
        q.row(1, 1, 40);
        q.row(2, 2, 1);
        q.row(3, 2, 0);
        int[][] dues = {
            {0, 0, 0, 0}, {0, 2, 127, 127}, {0, 1, 128, -128}, {0, 0, 255, -1}, {0, 0, 256, 0}, {0, 0, -129, 127},
            {1, 0, 32767, 32767}, {1, 39, 32768, -32768}, {1, 1, 65535, -1}, {1, 1, 65536, 0}, {1, 1, 200, 200},
            {2, 0, Integer.MAX_VALUE, Integer.MAX_VALUE}, {2, 0, Integer.MIN_VALUE, Integer.MIN_VALUE},
            {2, 0, 70000, 70000}, {0, 3, 1, Check.PLACE}, {0, -1, 1, Check.PLACE}, {1, 40, 1, Check.PLACE},
            {3, 0, 1, Check.PLACE}, {0, Integer.MAX_VALUE, 1, Check.PLACE}, {0, Integer.MIN_VALUE, 1, Check.PLACE},
            {4, 0, 1, Check.NULL}, {4, -1, 1, Check.NULL}, {-1, 0, 1, Check.BAD}, {8, 0, 1, Check.BAD},
        };
        for (int[] d : dues) {
            Check.due("set(" + d[0] + ", " + d[1] + ", " + d[2] + ")", q.set(d[0], d[1], d[2]), d[3]);
        }
    }

    private static void fill(ElbowQueue q, int row, int... items) {
        for (int i = 0; i < items.length; i++) {
            q.set(row, i, items[i]);
        }
    }

    private static void promise4() {
        ElbowQueue q = Check.town(EIGHT);
        q.row(0, 0, 9);
        fill(q, 0, 0, 0, 1, 2, 3, 4, 5, 6, 7);
        Check.due("to the front, over itself", q.copy(0, 1, 0, 0, 8), 8);
        Check.due("0 to 7", q.seen(0, 0, 8), 0);
        fill(q, 0, 0, 1, 2, 3, 4, 5, 6, 7, 8);
        Check.due("to the back, over itself", q.copy(0, 0, 0, 1, 8), 8);
        Check.due("0 to 7 from 1 on", q.seen(0, 1, 8), 0);
        q.row(1, 0, 8);
        Check.due("to another", q.copy(0, 1, 1, 0, 8), 8);
        Check.due("there", q.seen(1, 0, 8), 0);
        Check.due("here still", q.seen(0, 1, 8), 0);
        q.set(1, 0, 5);
        Check.due("the first keeps its own", q.seen(0, 1, 8), 0);
        Check.due("none at the ends", q.copy(0, 9, 1, 8, 0), 0);
    }

    private static void promise4Refusals() {
        ElbowQueue q = new ElbowQueue();
        q.row(0, 0, 4);
        q.row(1, 1, 4);
        q.row(2, 0, 2);
        int max = Integer.MAX_VALUE;
        int min = Integer.MIN_VALUE;
        int[][] dues = {
            {-1, 0, 0, 0, 0, Check.BAD}, {0, 0, 8, 0, 0, Check.BAD}, {8, 0, 5, 0, -1, Check.BAD},
            {5, 0, -1, 0, 0, Check.BAD}, {5, 0, 0, 0, 0, Check.NULL}, {0, 0, 5, 0, 0, Check.NULL},
            {5, -1, 1, 0, 0, Check.NULL}, {0, 0, 1, 0, 1, Check.STORE}, {0, -1, 1, 0, 1, Check.STORE},
            {1, 0, 0, 9, 9, Check.STORE}, {0, -1, 2, 0, 1, Check.PLACE}, {0, 0, 2, -1, 1, Check.PLACE},
            {0, 0, 2, 0, -1, Check.PLACE}, {0, 0, 2, 0, 3, Check.PLACE}, {2, 0, 0, 0, 3, Check.PLACE},
            {0, 4, 2, 0, 1, Check.PLACE}, {0, 5, 2, 0, 0, Check.PLACE}, {0, 0, 2, 3, 0, Check.PLACE},
            {0, max, 2, 0, max, Check.PLACE}, {0, 1, 0, 1, max, Check.PLACE}, {0, min, 0, 0, min, Check.PLACE},
            {0, max, 0, max, 1, Check.PLACE}, {0, 4, 2, 2, 0, 0}, {0, 2, 2, 0, 2, 2}, {0, 0, 0, 0, 4, 4},
        };
        for (int[] d : dues) {
            String call = "copy(" + d[0] + ", " + d[1] + ", " + d[2] + ", " + d[3] + ", " + d[4] + ")";
            Check.due(call, q.copy(d[0], d[1], d[2], d[3], d[4]), d[5]);
        }
    }

    private static void promise5() {
        ElbowQueue q = new ElbowQueue();
        q.row(0, 0, 0);
        q.row(6, 2, 40);
        Check.due("an empty one", q.drop(0), 0);
        Check.due("missing", q.drop(0), Check.NULL);
        Check.due("40 items", q.drop(6), 40);
        Check.due("no rows", q.count(0), 0);
        Check.due("nothing to set", q.set(6, 0, 0), Check.NULL);
        Check.due("row -1", q.drop(-1), Check.BAD);
        Check.due("row 8", q.drop(8), Check.BAD);
        Check.due("anew", q.row(6, 0, 2), 2);
        Check.due("2 items", q.drop(6), 2);
    }

    private static void promise33() {
        ElbowQueue q = new ElbowQueue();
        Check.due("at first", q.status(), 0);
        q.drop(0);
        Check.due("NULL", q.status(), 1);
        q.drop(9);
        q.row(0, 5, 1);
        q.set(-1, 0, 0);
        q.copy(0, 0, 8, 0, 0);
        q.seen(0, 0, 0);
        q.as(0, 0);
        q.minutes(1);
        q.feed(-1);
        q.status();
        Check.due("refusals leave it", q.status(), 1);
        q.row(0, 0, -5);
        Check.due("SIZE", q.status(), 4);
        q.row(0, 0, 2);
        Check.due("none by row", q.status(), 0);
        q.set(0, 2, 1);
        Check.due("PLACE", q.status(), 2);
        q.set(0, 1, 1);
        Check.due("none by set", q.status(), 0);
        q.row(1, 1, 2);
        q.copy(0, 0, 1, 0, 1);
        Check.due("STORE", q.status(), 5);
        q.copy(0, 0, 0, 1, 1);
        Check.due("none by copy", q.status(), 0);
        q.set(5, 0, 0);
        q.drop(1);
        Check.due("none by drop", q.status(), 0);
        statusWithTown(q);
    }

    private static void statusWithTown(ElbowQueue q) {
        Check.due("town", Check.read(q, "q0,0;b9,0;"), 1);
        q.as(0, 4);
        Check.due("KIND", q.status(), 3);
        q.minutes(1);
        q.ask(0, 0);
        q.place(0);
        Check.due("calls without a row leave it", q.status(), 3);
        q.as(0, 6);
        q.as(1, 0);
        Check.due("a refused as() leaves it", q.status(), 3);
        q.as(0, 1);
        Check.due("none by as", q.status(), 0);
        q.seen(7, 0, 1);
        Check.due("NULL by seen", q.status(), 1);
        q.row(7, 0, 1);
        q.seen(7, 1, 1);
        Check.due("PLACE by seen", q.status(), 2);
        q.set(0, 0, 9);
        q.seen(7, 1, 1);
        q.seen(0, 0, 1);
        Check.due("an item that is nobody leaves it", q.status(), 2);
        q.set(0, 0, 0);
        q.set(4, 0, 0);
        q.seen(7, 0, 0);
        Check.due("none by seen", q.status(), 0);
    }
}
