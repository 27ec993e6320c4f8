/** Boundary cases of promises 2 to 5 and 33 and of FINDINGS, a test for each sentence. */
public final class RowEdgesTest {
    private static final int MAX = Integer.MAX_VALUE, MIN = Integer.MIN_VALUE;

    public static void main(String[] args) {
        missingAtFirst();
        rowNumbers();
        lanes();
        howManyItems();
        fewerThanNone();
        badAheadOfSize();
        zeroAtFirst();
        inPlaceOfWhatIsThere();
        lowestBits();
        placesOfSet();
        setRefused();
        copiedLengths();
        copiedPlaces();
        copiedBeyondAllNumbers();
        asTheyWereAhead();
        nothingElseIsCopied();
        twoLanes();
        copyRefused();
        dropped();
        howManyRows();
        numbersOfFindings();
        statusOfEachCall();
        statusOfRefused();
        statusOfOthers();
        Check.end();
    }

    private static ElbowQueue withRow(int row, int lane, int n) {
        ElbowQueue q = new ElbowQueue();
        Check.due("row(" + row + ", " + lane + ", " + n + ")", q.row(row, lane, n), n);
        return q;
    }

    private static void fill(ElbowQueue q, int row, int... items) {
        for (int i = 0; i < items.length; i++) {
            Check.due("set(" + row + ", " + i + ")", q.set(row, i, items[i]), items[i]);
        }
    }

    /** Items of 0 to 4, by a town that makes them readable. */
    private static void items(ElbowQueue q, String where, int row, int... want) {
        Twins.makeReadable(q);
        for (int i = 0; i < want.length; i++) {
            Check.due(where + ", item " + i + " of row " + row, q.seen(row, i, 1), want[i]);
        }
        Check.due(where + ", the end of row " + row, q.seen(row, want.length, 1), Check.PLACE);
    }

    private static void missingAtFirst() {
        Check.sentence("ROWS 0 .. 7 are missing (at first)");
        for (int row = 0; row < 8; row++) {
            ElbowQueue q = withRow(7 - row, 0, 40);
            Check.due("set", new ElbowQueue().set(row, 0, 0), Check.NULL);
            Check.due("drop", new ElbowQueue().drop(row), Check.NULL);
            Check.due("copy from", q.copy(row, 0, 7 - row, 0, 0), Check.NULL);
            Check.due("copy to", q.copy(7 - row, 0, row, 0, 0), Check.NULL);
            Check.due("seen", Check.town("q0,0;").seen(row, 0, 0), Check.NULL);
        }
        Check.due("rows", new ElbowQueue().count(0), 0);
    }

    private static ElbowQueue allRows() {
        ElbowQueue q = Check.town("q0,0;b9,0;");
        for (int row = 0; row < 8; row++) {
            q.row(row, 0, 4);
        }
        return q;
    }

    private static void rowNumbers() {
        Check.sentence("ROWS 0 .. 7; BAD: ROW");
        new Edges("row", ElbowQueue::new, (q, row) -> q.row(row, 0, 4)).only(0, 7);
        new Edges("set", RowEdgesTest::allRows, (q, row) -> q.set(row, 0, 4)).only(0, 7);
        new Edges("copy from", RowEdgesTest::allRows, (q, row) -> q.copy(row, 0, 0, 0, 4)).only(0, 7);
        new Edges("copy to", RowEdgesTest::allRows, (q, row) -> q.copy(0, 0, row, 0, 4)).only(0, 7);
        new Edges("drop", RowEdgesTest::allRows, ElbowQueue::drop).only(0, 7);
        new Edges("seen", RowEdgesTest::allRows, (q, row) -> q.seen(row, 0, 1)).only(0, 7);
    }

    private static void lanes() {
        Check.sentence("a LANE (0 bytes, 1 shorts, 2 ints); BAD: LANE");
        new Edges("row", ElbowQueue::new, (q, lane) -> q.row(0, lane, 4)).only(0, 2);
        Check.due("bytes", withRow(0, 0, 1).set(0, 0, 70000), 112);
        Check.due("shorts", withRow(0, 1, 1).set(0, 0, 70000), 4464);
        Check.due("ints", withRow(0, 2, 1).set(0, 0, 70000), 70000);
    }

    private static void howManyItems() {
        Check.sentence("0 to 40 ITEMS; BAD: n above 40");
        new Edges("row", ElbowQueue::new, (q, n) -> q.row(3, 1, n)).takes(0, 40).above(40, Check.BAD);
        for (int n = 0; n <= 40; n++) {
            ElbowQueue q = withRow(7, 2, n);
            Check.due("the item behind the last of " + n, q.set(7, n, 0), Check.PLACE);
            if (n > 0) {
                Check.due("the last of " + n, q.set(7, n - 1, 5), 5);
            }
            Check.due("drop of " + n, q.drop(7), n);
        }
    }

    private static void fewerThanNone() {
        Check.sentence("4 SIZE (fewer than none)");
        new Edges("row", ElbowQueue::new, (q, n) -> q.row(3, 1, n)).below(0, Check.SIZE);
        ElbowQueue q = withRow(3, 1, 2);
        Check.due("row(3, 0, -1)", q.row(3, 0, -1), Check.SIZE);
        Check.due("status", q.status(), 4);
        Check.due("the row is as it was", q.drop(3), 2);
    }

    private static void badAheadOfSize() {
        Check.sentence("Promise 2: BAD: ROW, LANE, n above 40; SIZE");
        ElbowQueue q = new ElbowQueue();
        Check.due("row(8, 0, -1)", q.row(8, 0, -1), Check.BAD);
        Check.due("row(-1, 0, -1)", q.row(-1, 0, -1), Check.BAD);
        Check.due("row(0, 3, -1)", q.row(0, 3, -1), Check.BAD);
        Check.due("row(0, -1, -1)", q.row(0, -1, -1), Check.BAD);
        Check.due("row(8, 3, 41)", q.row(8, 3, 41), Check.BAD);
        Check.due("status", q.status(), 0);
        Check.due("rows", q.count(0), 0);
    }

    private static void zeroAtFirst() {
        Check.sentence("ITEMS, 0 at first");
        for (int lane = 0; lane < 3; lane++) {
            ElbowQueue q = withRow(5, lane, 40);
            items(q, "new", 5, new int[40]);
            ElbowQueue again = withRow(5, lane, 5);
            fill(again, 5, 4, 3, 2, 1, 4);
            again.row(5, lane, 5);
            items(again, "laid again", 5, 0, 0, 0, 0, 0);
            fill(again, 5, 4, 3, 2, 1, 4);
            again.row(5, lane, 2);
            again.row(5, lane, 6);
            items(again, "laid larger", 5, 0, 0, 0, 0, 0, 0);
            fill(again, 5, 4, 3, 2, 1, 4, 3);
            again.drop(5);
            again.row(5, lane, 3);
            items(again, "dropped and laid", 5, 0, 0, 0);
        }
    }

    private static void inPlaceOfWhatIsThere() {
        Check.sentence("Promise 2: in place of what is there");
        ElbowQueue q = withRow(0, 0, 3);
        Check.due("ints", q.row(0, 2, 5), 5);
        Check.due("one row", q.count(0), 1);
        Check.due("an int", q.set(0, 4, 70000), 70000);
        Check.due("bytes", q.row(0, 0, 1), 1);
        Check.due("no second item", q.set(0, 1, 0), Check.PLACE);
        Check.due("a byte", q.set(0, 0, 200), -56);
        Check.due("none", q.row(0, 1, 0), 0);
        Check.due("no item", q.set(0, 0, 0), Check.PLACE);
        Check.due("it is not missing", q.count(0), 1);
        Check.due("drop", q.drop(0), 0);
    }

    private static void lowestBits() {
        Check.sentence("Promise 3: v, its lowest bits, as many as the LANE has: what it is then");
        int[][] bytes = {{0, 0}, {1, 1}, {-1, -1}, {127, 127}, {128, -128}, {-128, -128}, {-129, 127}, {255, -1},
            {256, 0}, {257, 1}, {-256, 0}, {-257, -1}, {32768, 0}, {MAX, -1}, {MIN, 0}, {0x1234567F, 127}};
        int[][] shorts = {{0, 0}, {-1, -1}, {128, 128}, {-129, -129}, {32767, 32767}, {32768, -32768},
            {-32768, -32768}, {-32769, 32767}, {65535, -1}, {65536, 0}, {-65536, 0}, {-65537, -1}, {MAX, -1}, {MIN, 0}};
        int[][] ints = {{0, 0}, {-1, -1}, {65536, 65536}, {-65537, -65537}, {MAX, MAX}, {MIN, MIN}, {MIN + 1, MIN + 1}};
        int[][][] lanes = {bytes, shorts, ints};
        for (int lane = 0; lane < 3; lane++) {
            ElbowQueue q = withRow(lane, lane, 40);
            for (int[] one : lanes[lane]) {
                Check.due("lane " + lane + ", set of " + one[0], q.set(lane, 39, one[0]), one[1]);
            }
        }
        ElbowQueue q = withRow(0, 0, 1);
        Check.due("258 as a byte", q.set(0, 0, 258), 2);
        items(q, "what is kept is what it is then", 0, 2);
    }

    private static void placesOfSet() {
        Check.sentence("Promise 3: PLACE (no such place of a ROW)");
        for (int n : new int[] {0, 1, 2, 39, 40}) {
            new Edges("set in " + n, () -> withRow(4, 0, n), (q, i) -> q.set(4, i, 1)).takes(0, n - 1)
                .below(0, Check.PLACE).above(n - 1, Check.PLACE);
        }
    }

    private static void setRefused() {
        Check.sentence("Promise 3: BAD: ROW; NULL; PLACE");
        ElbowQueue q = withRow(1, 0, 3);
        Check.due("BAD ahead of PLACE", q.set(8, -1, 0), Check.BAD);
        Check.due("NULL ahead of PLACE, below", q.set(0, -1, 0), Check.NULL);
        Check.due("NULL ahead of PLACE, above", q.set(0, 40, 0), Check.NULL);
        Check.due("PLACE", q.set(1, 3, 0), Check.PLACE);
    }

    private static ElbowQueue twoRows() {
        ElbowQueue q = withRow(0, 1, 6);
        q.row(1, 1, 4);
        return q;
    }

    private static void copiedLengths() {
        Check.sentence("Promise 4: n ITEMS; PLACE (n below 0, or beyond an end)");
        new Edges("copy to the smaller", RowEdgesTest::twoRows, (q, n) -> q.copy(0, 0, 1, 0, n)).takes(0, 4)
            .below(0, Check.PLACE).above(4, Check.PLACE);
        new Edges("copy to the larger", RowEdgesTest::twoRows, (q, n) -> q.copy(1, 0, 0, 0, n)).takes(0, 4)
            .below(0, Check.PLACE).above(4, Check.PLACE);
        new Edges("copy within one", RowEdgesTest::twoRows, (q, n) -> q.copy(0, 0, 0, 0, n)).takes(0, 6)
            .below(0, Check.PLACE).above(6, Check.PLACE);
        Check.due("40 items", withRow(0, 2, 40).copy(0, 0, 0, 0, 40), 40);
        Check.due("41 items", withRow(0, 2, 40).copy(0, 0, 0, 0, 41), Check.PLACE);
        Check.due("none of none", withRow(0, 2, 0).copy(0, 0, 0, 0, 0), 0);
        Check.due("one of none", withRow(0, 2, 0).copy(0, 0, 0, 0, 1), Check.PLACE);
    }

    private static void copiedPlaces() {
        Check.sentence("Promise 4: PLACE (i, j below 0, or beyond an end)");
        for (int n = 0; n <= 4; n++) {
            int many = n;
            new Edges("from i on, " + n, RowEdgesTest::twoRows, (q, i) -> q.copy(0, i, 1, 0, many)).takes(0, 6 - n)
                .below(0, Check.PLACE).above(6 - n, Check.PLACE);
            new Edges("from j on, " + n, RowEdgesTest::twoRows, (q, j) -> q.copy(0, 0, 1, j, many)).takes(0, 4 - n)
                .below(0, Check.PLACE).above(4 - n, Check.PLACE);
        }
        Check.due("none, at both ends", twoRows().copy(0, 6, 1, 4, 0), 0);
    }

    private static void copiedBeyondAllNumbers() {
        Check.sentence("Promise 4: beyond an end, by a sum that no int holds");
        Check.due("i and n", twoRows().copy(0, MAX, 1, 0, MAX), Check.PLACE);
        Check.due("j and n", twoRows().copy(0, 0, 1, MAX, 1), Check.PLACE);
        Check.due("i alone", twoRows().copy(0, MAX, 1, 0, 1), Check.PLACE);
        Check.due("i and n come to a small sum", twoRows().copy(0, MAX, 1, 0, MIN), Check.PLACE);
        Check.due("n alone, from 1 on", twoRows().copy(0, 1, 1, 1, MAX), Check.PLACE);
        Check.due("lowest i, j, n", twoRows().copy(0, MIN, 1, MIN, MIN), Check.PLACE);
    }

    private static void asTheyWereAhead() {
        Check.sentence("Promise 4: as they were ahead");
        ElbowQueue q = withRow(2, 0, 6);
        fill(q, 2, 0, 1, 2, 3, 4, 0);
        Check.due("over itself, to the back", q.copy(2, 0, 2, 1, 5), 5);
        items(q, "to the back", 2, 0, 0, 1, 2, 3, 4);
        Check.due("over itself, to the front", q.copy(2, 2, 2, 0, 4), 4);
        items(q, "to the front", 2, 1, 2, 3, 4, 3, 4);
        Check.due("over itself, in its place", q.copy(2, 1, 2, 1, 4), 4);
        items(q, "in its place", 2, 1, 2, 3, 4, 3, 4);
    }

    private static void nothingElseIsCopied() {
        Check.sentence("Promise 4: n ITEMS of a from i on come to b from j on");
        ElbowQueue q = withRow(0, 1, 4);
        q.row(7, 1, 5);
        fill(q, 0, 1, 2, 3, 4);
        fill(q, 7, 4, 4, 4, 4, 4);
        Check.due("two", q.copy(0, 1, 7, 2, 2), 2);
        items(q, "there", 7, 4, 4, 2, 3, 4);
        items(q, "here", 0, 1, 2, 3, 4);
        Check.due("none", q.copy(0, 0, 7, 0, 0), 0);
        items(q, "there still", 7, 4, 4, 2, 3, 4);
        Check.due("one, the last", q.copy(0, 3, 7, 4, 1), 1);
        q.set(0, 3, 0);
        items(q, "the rows are two", 7, 4, 4, 2, 3, 4);
    }

    private static void twoLanes() {
        Check.sentence("5 STORE (ROWS of two LANES)");
        for (int a = 0; a < 3; a++) {
            for (int b = 0; b < 3; b++) {
                ElbowQueue q = withRow(0, a, 3);
                q.row(1, b, 3);
                Check.due("lanes " + a + ", " + b, q.copy(0, 0, 1, 0, 3), a == b ? 3 : Check.STORE);
                Check.due("status", q.status(), a == b ? 0 : 5);
                Check.due("none of lanes " + a + ", " + b, q.copy(0, 0, 1, 0, 0), a == b ? 0 : Check.STORE);
            }
        }
    }

    private static void copyRefused() {
        Check.sentence("Promise 4: BAD: ROWS; NULL; STORE; PLACE");
        ElbowQueue q = withRow(0, 0, 3);
        q.row(1, 1, 3);
        Check.due("BAD ahead of NULL, to", q.copy(5, 0, 8, 0, 0), Check.BAD);
        Check.due("BAD ahead of NULL, from", q.copy(8, 0, 5, 0, 0), Check.BAD);
        Check.due("BAD ahead of PLACE", q.copy(0, -1, -1, 0, 0), Check.BAD);
        Check.due("NULL ahead of PLACE, to", q.copy(0, -1, 5, 0, 0), Check.NULL);
        Check.due("NULL ahead of PLACE, from", q.copy(5, 0, 0, 0, -1), Check.NULL);
        Check.due("both are missing", q.copy(5, 0, 6, 0, 0), Check.NULL);
        Check.due("the same is missing", q.copy(5, 0, 5, 0, 0), Check.NULL);
        Check.due("STORE ahead of PLACE, i", q.copy(0, -1, 1, 0, 0), Check.STORE);
        Check.due("STORE ahead of PLACE, j", q.copy(0, 0, 1, 4, 0), Check.STORE);
        Check.due("STORE ahead of PLACE, n", q.copy(1, 0, 0, 0, -1), Check.STORE);
    }

    private static void dropped() {
        Check.sentence("Promise 5: A ROW is missing from now on: how many ITEMS it had. BAD; NULL");
        for (int n : new int[] {0, 1, 40}) {
            ElbowQueue q = withRow(6, 1, n);
            Check.due("drop", q.drop(6), n);
            Check.due("it is missing", q.drop(6), Check.NULL);
            Check.due("no item is set", q.set(6, 0, 0), Check.NULL);
            Check.due("none is copied", q.copy(6, 0, 6, 0, 0), Check.NULL);
            Check.due("rows", q.count(0), 0);
            Check.due("laid anew", q.row(6, 0, 2), 2);
            Check.due("drop", q.drop(6), 2);
        }
        ElbowQueue q = allRows();
        Check.due("drop(3)", q.drop(3), 4);
        Check.due("row 2 is there", q.set(2, 3, 1), 1);
        Check.due("row 4 is there", q.set(4, 3, 1), 1);
    }

    private static void howManyRows() {
        Check.sentence("Promise 32: How many: 0 ROWS");
        ElbowQueue q = new ElbowQueue();
        for (int row = 0; row < 8; row++) {
            Check.due("rows", q.count(0), row);
            q.row(row, 0, row);
        }
        for (int row = 0; row < 8; row++) {
            Check.due("rows", q.count(0), 8 - row);
            q.drop(row);
        }
        Check.due("rows", q.count(0), 0);
    }

    private static void finding(ElbowQueue q, int answer, int number) {
        Check.due("answer " + number, answer, -1000010 - number);
        Check.due("status " + number, q.status(), number);
    }

    private static void numbersOfFindings() {
        Check.sentence("FINDINGS: -1000010 less 1 NULL, 2 PLACE, 3 KIND, 4 SIZE, 5 STORE");
        ElbowQueue q = Check.town("q0,0;b9,0;");
        q.row(0, 0, 1);
        q.row(1, 1, 1);
        finding(q, q.drop(2), 1);
        finding(q, q.set(0, 1, 0), 2);
        finding(q, q.as(0, 5), 3);
        finding(q, q.row(0, 0, -1), 4);
        finding(q, q.copy(0, 0, 1, 0, 1), 5);
    }

    /** Of each call that leaves a status: its findings, and 0 when it had none. */
    private static void statusOfEachCall() {
        Check.sentence("Promise 33: the number of its FINDING; 0: it had none, or there was none");
        ElbowQueue q = Check.town("q0,0;b9,0;");
        Check.due("there was none", q.status(), 0);
        finding(q, q.row(0, 0, -1), 4);
        Check.due("row", q.row(0, 0, 2) + q.status(), 2);
        finding(q, q.set(1, 0, 0), 1);
        Check.due("set", q.set(0, 0, 0) + q.status(), 0);
        finding(q, q.set(0, 2, 0), 2);
        Check.due("copy", q.copy(0, 0, 0, 0, 2) + q.status(), 2);
        finding(q, q.copy(0, 0, 1, 0, 0), 1);
        finding(q, q.copy(0, 0, 0, 1, 2), 2);
        q.row(2, 2, 2);
        finding(q, q.copy(0, 0, 2, 0, 0), 5);
        Check.due("drop", q.drop(2) + q.status(), 2);
        finding(q, q.drop(2), 1);
        Check.due("seen", q.seen(0, 0, 1) + q.status(), 0);
        finding(q, q.seen(2, 0, 0), 1);
        Check.due("seen, never", q.seen(0, 0, 2) + q.status(), Check.NONE);
        finding(q, q.seen(0, 2, 1), 2);
        Check.due("as", q.as(0, 1) + q.status(), 0);
        finding(q, q.as(0, 2), 3);
    }

    private static void statusOfRefused() {
        Check.sentence("Promise 33: Of the latest call that was not BAD, STATE, FULL");
        ElbowQueue q = new ElbowQueue();
        q.row(0, 0, -1);
        Check.due("seen without a town", q.seen(0, 0, 0), Check.STATE);
        Check.due("as without a town", q.as(0, 0), Check.BAD);
        Check.due("row", q.row(8, 0, 0), Check.BAD);
        Check.due("set", q.set(8, 0, 0), Check.BAD);
        Check.due("copy", q.copy(8, 0, 0, 0, 0), Check.BAD);
        Check.due("drop", q.drop(8), Check.BAD);
        Check.due("status", q.status(), 4);
        Check.due("town", Check.read(q, "q0,0;b9,0;"), 1);
        Check.due("seen", q.seen(8, 0, 0), Check.BAD);
        Check.due("seen", q.seen(0, 0, 17), Check.BAD);
        Check.due("as", q.as(0, 6), Check.BAD);
        Check.due("as", q.as(1, 0), Check.BAD);
        Check.due("status", q.status(), 4);
        q.row(0, 0, 1);
        q.set(0, 0, 1);
        q.drop(1);
        Check.due("seen of nobody", q.seen(0, 0, 1), Check.BAD);
        Check.due("status", q.status(), 1);
    }

    private static void statusOfOthers() {
        Check.sentence("Promise 33: Of the latest call with a ROW, or as()");
        ElbowQueue q = Check.town("q0,0;b9,0;b9,0;");
        q.drop(0);
        int answers = q.feed('q') + q.town() + q.fault() + q.minutes(1) + q.say(0, 1) + q.go(1) + q.hatch(1, 1)
            + q.undo() + q.person(0, 0) + q.place(0) + q.ahead(1, 0) + q.order(1, 0) + q.lives() + q.words(0, 0)
            + q.served(0, 0) + q.spread(0) + q.elbows(0) + q.grows(0, 0, 0, 0) + q.opens(1, 0) + q.image(0)
            + q.restore(0) + q.kind(0) + q.ask(0, 0) + q.trace(0) + q.count(0);
        Check.due("status behind all others", q.status(), 1);
        Check.due("status behind status", q.status(), 1);
        Check.isTrue("they were answered", answers != 0);
        Check.due("a town", Check.read(q, "q1,1;"), 0);
        Check.due("a town leaves it", q.status(), 1);
    }
}
