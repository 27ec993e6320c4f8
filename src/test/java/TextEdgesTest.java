/** Boundary cases of promises 1 and 6 to 8 and of TEXTS, a test for each sentence. */
public final class TextEdgesTest {
    private static final String SORTS = "bwsfd";
    private static final int FAULT_AT = -1000100;

    public static void main(String[] args) {
        atFirst();
        aByte();
        tapeIsFull();
        tapeIsEmptyThen();
        wholeOfATape();
        tokens();
        figures();
        noFigures();
        causes();
        servings();
        patiences();
        beliefs();
        needs();
        sorts();
        waitersAtMost();
        passersAtMost();
        waitersThenPassers();
        placesAsTold();
        nobody();
        inPlaceOfTheOneBefore();
        nothingOfTheOneBefore();
        faultAtTheEnd();
        firstTokenOfSeveral();
        leastOfOneToken();
        allStays();
        latestFault();
        Check.end();
    }

    private static void reads(String text, int people) {
        Check.due("town of " + text, Check.read(new ElbowQueue(), text), people);
    }

    private static void faulty(String text, int place, int number) {
        ElbowQueue q = new ElbowQueue();
        Check.due("town of " + text, Check.read(q, text), FAULT_AT - place);
        Check.due("fault of " + text, q.fault(), number);
        Check.due("still no town behind " + text, q.lives(), Check.STATE);
    }

    private static String many(String one, int times) {
        return one.repeat(times);
    }

    private static void atFirst() {
        Check.sentence("Promise 1: No TOWN");
        ElbowQueue q = new ElbowQueue();
        Check.counts(q, "a new object", 0, 0, 0, 0, 0, 0, 0, 0, 0);
        Check.due("lives", q.lives(), Check.STATE);
        Check.due("place(0)", q.place(0), Check.NONE);
        Check.due("fault", q.fault(), 0);
        Check.due("status", q.status(), 0);
        Check.due("trace(0)", q.trace(0), Check.NONE);
        for (int row = 0; row < 8; row++) {
            Check.due("drop(" + row + ")", new ElbowQueue().drop(row), Check.NULL);
        }
    }

    private static void aByte() {
        Check.sentence("Promise 6: A byte (0 to 255)");
        new Edges("feed", ElbowQueue::new, ElbowQueue::feed).only(0, 255);
        for (int letter = 0; letter < 256; letter++) {
            Check.due("feed(" + letter + ")", new ElbowQueue().feed(letter), 1);
        }
    }

    private static void tapeIsFull() {
        Check.sentence("THE TAPE has at most 160 bytes; FULL");
        ElbowQueue q = new ElbowQueue();
        for (int n = 1; n <= 160; n++) {
            Check.due("byte " + n, q.feed('z'), n);
            Check.due("bytes", q.count(8), n);
        }
        Check.due("byte 161", q.feed('z'), Check.FULL);
        Check.due("byte 161 again", q.feed(0), Check.FULL);
        Check.due("bytes", q.count(8), 160);
        Check.due("-1 is BAD ahead of FULL", q.feed(-1), Check.BAD);
        Check.due("256 is BAD ahead of FULL", q.feed(256), Check.BAD);
    }

    private static void tapeIsEmptyThen() {
        Check.sentence("Promise 7: The tape, empty then");
        ElbowQueue q = new ElbowQueue();
        Check.due("a town", Check.read(q, "q0,0;"), 0);
        Check.due("bytes behind a town", q.count(8), 0);
        Check.due("the same tape is not read again", q.town(), FAULT_AT);
        Check.due("a fault", Check.read(q, "q0,0;xyz"), FAULT_AT - 5);
        Check.due("bytes behind a fault", q.count(8), 0);
        for (int n = 1; n <= 160; n++) {
            q.feed('q');
        }
        Check.due("a full tape", q.town(), FAULT_AT - 1);
        Check.due("bytes behind a full tape", q.count(8), 0);
        Check.due("the first byte anew", q.feed('q'), 1);
        Check.due("what was behind it is gone", q.town(), FAULT_AT - 1);
        Check.due("at the end", q.fault(), 1);
    }

    private static void wholeOfATape() {
        Check.sentence("THE TAPE has at most 160 bytes: all of them are read");
        String longest = "q03,09;" + many("b99,03;", 8) + many("pb99,03,16;", 8);
        Check.due("bytes of the longest town", longest.length(), 151);
        reads(longest, 16);
        faulty(longest + many("x", 9), 151, 1);
        faulty(longest + "pb1,0,0;x", 151, 3);
        faulty(longest.substring(0, 150), 150, 1);
        faulty(longest.substring(0, 150) + many(" ", 10), 150, 1);
    }

    /**
     * Of each place: what can stand there, so that the text is read; all but a figure is a fault there otherwise, or
     * behind it where a waiter might begin as well as a passer.
     */
    private static void tokens() {
        Check.sentence("TOKENS: letters a to z, NUMBERS, SIGNS , and ; nothing else, no blanks");
        String text = "q1,2;b3,1;pw4,2,5;";
        String figures = "0123456789";
        String[] stands = {"q", "0123", ",", figures, ";", SORTS, figures, ",", "0123", ";", "p", SORTS, figures, ",",
            "0123", ",", figures, ";"};
        Check.due("places", stands.length, text.length());
        for (int place = 0; place < text.length(); place++) {
            for (char letter = 0; letter < 256; letter++) {
                String other = text.substring(0, place) + letter + text.substring(place + 1);
                boolean begins = (place == 5 || place == 10) && (SORTS + "p").indexOf(letter) >= 0;
                if (stands[place].indexOf(letter) >= 0) {
                    reads(other, 2);
                } else if (figures.indexOf(letter) < 0) {
                    faulty(other, begins ? place + 1 : place, 1);
                }
            }
        }
        faulty(" q1,2;", 0, 1);
        faulty("q1,2; ", 5, 1);
        faulty("q1, 2;", 3, 1);
        faulty("q1,2;\n", 5, 1);
    }

    /** A text with X for a number, and where X stands. */
    private static final String[] NUMBERS = {"qX,2;", "q1,X;", "q1,2;bX,1;", "q1,2;b3,X;", "q1,2;pwX,2,5;",
        "q1,2;pw4,X,5;", "q1,2;pw4,2,X;"};

    private static void figures() {
        Check.sentence("NUMBERS (figures, 2 at most)");
        for (String text : NUMBERS) {
            int place = text.indexOf('X');
            for (String number : new String[] {"0", "3", "00", "03"}) {
                Check.taken("town of " + text + " with " + number, Check.read(new ElbowQueue(), text.replace("X", number)));
            }
            for (String number : new String[] {"000", "003", "100", "999", "0000", "1234567890"}) {
                faulty(text.replace("X", number), place, 1);
            }
        }
        faulty("q000", 1, 1);
        faulty("q0,0;b12", 8, 1);
        faulty("q0,0;b123", 6, 1);
    }

    private static void noFigures() {
        Check.sentence("1 it cannot stand there: no figure at all, a sign of minus, a part");
        for (String text : NUMBERS) {
            int place = text.indexOf('X');
            faulty(text.replace("X", ""), place, 1);
            faulty(text.replace("X", "-1"), place, 1);
            faulty(text.replace("X", "+1"), place, 1);
            faulty(text.replace("X", "1.0"), place + 1, 1);
            faulty(text.replace("X", "1 "), place + 1, 1);
            faulty(text.replace("X", "1b"), place + 1, 1);
        }
    }

    /** Each number from 0 to 99, with one figure and with two. */
    private static void numbers(String text, int most, int people) {
        for (int number = 0; number < 100; number++) {
            String two = number < 10 ? "0" + number : String.valueOf(number);
            if (number <= most) {
                reads(text.replace("X", String.valueOf(number)), people);
                reads(text.replace("X", two), people);
            } else {
                faulty(text.replace("X", String.valueOf(number)), text.indexOf('X'), 2);
                faulty(text.replace("X", two), text.indexOf('X'), 2);
            }
        }
    }

    private static void causes() {
        Check.sentence("CAUSE 0: nothing, 1 to 3");
        numbers("qX,2;", 3, 0);
        for (int cause = 0; cause <= 3; cause++) {
            Check.due("cause", Check.town("q" + cause + ",5;").count(5), cause);
        }
    }

    private static void servings() {
        Check.sentence("SERVES 0 to 9");
        numbers("q1,X;", 9, 0);
        for (int serves = 0; serves <= 9; serves++) {
            Check.due("serves", Check.town("q2," + serves + ";").count(6), serves);
        }
    }

    private static void patiences() {
        Check.sentence("SORT PATIENCE: 0 to 99");
        numbers("q1,2;bX,1;", 99, 1);
        numbers("q1,2;pwX,2,5;", 99, 1);
        for (int patience = 0; patience <= 99; patience++) {
            Check.due("of a waiter", Check.town("q0,0;b" + patience + ",1;").person(0, 4), patience);
            Check.due("of a passer", Check.town("q0,0;pd" + patience + ",1,2;").person(0, 4), patience);
        }
    }

    private static void beliefs() {
        Check.sentence("BELIEF 0: nothing, 1 to 3");
        numbers("q1,2;b3,X;", 3, 1);
        numbers("q1,2;pw4,X,5;", 3, 1);
        for (int belief = 0; belief <= 3; belief++) {
            Check.due("of a waiter", Check.town("q0,0;b9," + belief + ";").person(0, 3), belief);
            Check.due("of a passer", Check.town("q0,0;pd9," + belief + ",2;").person(0, 3), belief);
        }
    }

    private static void needs() {
        Check.sentence("NEED 0 to 16");
        numbers("q1,2;pw4,2,X;", 16, 1);
    }

    private static void sorts() {
        Check.sentence("SORT: b a believer, w a follower, s a sunk one, f a first one, d a doubter");
        for (char letter = 'a'; letter <= 'z'; letter++) {
            int kind = SORTS.indexOf(letter) + 1;
            String waiter = "q0,0;" + letter + "9,0;";
            String passer = "q0,0;p" + letter + "9,0,0;";
            if (kind == 0) {
                faulty(waiter, letter == 'p' ? 6 : 5, 1);
                faulty(passer, 6, 1);
            } else {
                Check.due("kind of " + waiter, Check.town(waiter).kind(0), kind);
                Check.due("kind of " + passer, Check.town(passer).kind(0), kind);
            }
        }
    }

    private static void waitersAtMost() {
        Check.sentence("waiter: 8 at most; 3 a waiter more than there is room for (its first letter)");
        for (int n = 0; n <= 8; n++) {
            ElbowQueue q = Check.town("q0,0;" + many("b1,0;", n));
            Check.counts(q, n + " waiters", 0, n, 0, 0, n, 0, 0, 0, 0);
            Check.counts(Check.town("q0,0;" + many("b1,0;", n) + "pb1,0,0;"), n + " waiters", 0, n + 1, 1, 0, n);
        }
        for (char sort : SORTS.toCharArray()) {
            faulty("q0,0;" + many("b1,0;", 8) + sort, 45, 3);
            faulty("q0,0;" + many("b1,0;", 8) + sort + "1,0;", 45, 3);
            faulty("q0,0;" + many("b1,0;", 9) + sort + "1,0;", 45, 3);
        }
    }

    private static void passersAtMost() {
        Check.sentence("passer: 8 at most; 3 a passer more than there is room for (its first letter)");
        for (int n = 0; n <= 8; n++) {
            ElbowQueue q = Check.town("q0,0;" + many("pb1,0,0;", n));
            Check.counts(q, n + " passers", 0, n, n, 0, 0, 0, 0, 0, 0);
            Check.counts(Check.town("q0,0;" + many("b1,0;", 8) + many("pb1,0,0;", n)), n + " passers", 0, 8 + n, n);
        }
        for (char sort : SORTS.toCharArray()) {
            faulty("q0,0;" + many("pb1,0,0;", 8) + "p" + sort + "1,0,0;", 69, 3);
            faulty("q0,0;" + many("b1,0;", 8) + many("pb1,0,0;", 8) + "p" + sort, 109, 3);
        }
        faulty("q0,0;" + many("pb1,0,0;", 8) + "p", 69, 3);
        faulty("q0,0;" + many("pb1,0,0;", 9) + "x", 69, 3);
    }

    private static void waitersThenPassers() {
        Check.sentence("town: q CAUSE , SERVES ; { waiter } { passer }");
        faulty("q0,0;pb1,0,0;b1,0;", 13, 1);
        faulty("q0,0;b1,0;pb1,0,0;b1,0;", 18, 1);
        faulty("q0,0;" + many("pb1,0,0;", 8) + "b1,0;", 69, 1);
        faulty("q0,0;" + many("b1,0;", 8) + "pb1,0,0;b1,0;", 53, 1);
        faulty("b1,0;q0,0;", 0, 1);
        faulty("pb1,0,0;", 0, 1);
        faulty("q0,0;q0,0;", 5, 1);
        faulty("q0,0;b1,0;q0,0;", 10, 1);
    }

    /** All 16, each told otherwise than the one before: sort, patience, belief. */
    private static void placesAsTold() {
        Check.sentence("the first one at PLACE 0; PEOPLE 0 .. 15: waiters, then passers");
        StringBuilder text = new StringBuilder("q0,0;");
        String sorts = "bwsd";
        for (int person = 0; person < 16; person++) {
            text.append(person < 8 ? "" : "p").append(sorts.charAt(person % 4)).append(10 + person).append(',');
            text.append(3 - person % 3).append(person < 8 ? ";" : ",9;");
        }
        ElbowQueue q = new ElbowQueue();
        Check.due("people", Check.read(q, text.toString()), 16);
        Check.inQueue(q, "as told", 0, 1, 2, 3, 4, 5, 6, 7);
        for (int person = 0; person < 16; person++) {
            int place = person < 8 ? person : Check.NONE;
            Check.person(q, "as told", person, place, person < 8 ? 1 : 0, 0, 3 - person % 3, 10 + person, person);
            Check.due("kind", q.kind(person), SORTS.indexOf(sorts.charAt(person % 4)) + 1);
        }
        Check.due("person(-1, 0)", q.person(-1, 0), Check.BAD);
        Check.due("person(16, 0)", q.person(16, 0), Check.BAD);
        Check.due("person(0, 0) of a passer alone", Check.town("q0,0;pb1,0,0;").person(0, 1), 0);
    }

    private static void nobody() {
        Check.sentence("{ waiter } { passer }: there may be none");
        ElbowQueue q = Check.town("q3,1;");
        Check.counts(q, "nobody", 0, 0, 0, 0, 0, 3, 1, 0, 0);
        Check.due("person(0, 0)", q.person(0, 0), Check.BAD);
        Check.due("place(0)", q.place(0), Check.NONE);
        Check.due("lives", q.lives(), 0);
        Check.due("minutes", q.minutes(20), 0);
        Check.due("minute", q.count(3), 20);
        Check.due("hatch", q.hatch(0, 0), 31);
        Check.due("image", q.image(0), 1);
    }

    private static void inPlaceOfTheOneBefore() {
        Check.sentence("A TOWN that is read stands in place of the one before: MINUTE 0, nobody has STOOD; no ACT");
        ElbowQueue q = Check.town("q1,3;f9,0;b9,2;w9,0;pd9,1,0;");
        q.minutes(5);
        q.say(1, 3);
        q.hatch(2, 7);
        Check.due("the same text", Check.read(q, "q1,3;f9,0;b9,2;w9,0;pd9,1,0;"), 4);
        Check.counts(q, "anew", 0, 4, 1, 0, 3, 1, 3, 0, 0);
        Check.inQueue(q, "anew", 0, 1, 2);
        Check.person(q, "anew", 0, 0, 1, 0, 1, 9, 0);
        Check.person(q, "anew", 1, 1, 1, 0, 2, 9, 1);
        Check.person(q, "anew", 2, 2, 1, 0, 0, 9, 2);
        Check.person(q, "anew", 3, Check.NONE, 0, 0, 1, 9, 3);
        Check.due("no act can be undone", q.undo(), Check.STATE);
        Check.due("the first passer comes first", q.minutes(1), 4);
        Check.due("one act", q.undo(), 0);
    }

    private static void nothingOfTheOneBefore() {
        Check.sentence("A TOWN that is read stands in place of the one before: nobody of it is left");
        ElbowQueue q = Check.town("q1,3;f9,0;b9,2;w9,0;pd9,1,0;");
        q.minutes(5);
        Check.due("a smaller one", Check.read(q, "q0,0;s7,3;"), 1);
        Check.due("person(0, 4)", q.person(0, 4), 7);
        Check.due("person(1, 4)", q.person(1, 4), Check.BAD);
        Check.inQueue(q, "a smaller one", 0);
        Check.due("nobody", Check.read(q, "q2,4;"), 0);
        Check.counts(q, "nobody", 0, 0, 0, 0, 0, 2, 4, 0, 0);
        Check.inQueue(q, "nobody");
        Check.due("a larger one", Check.read(q, "q0,0;s7,3;b1,0;d2,1;f3,0;w4,2;"), 5);
        Check.inQueue(q, "a larger one", 0, 1, 2, 3, 4);
    }

    private static void faultAtTheEnd() {
        Check.sentence("1 it cannot stand there, or is none (the end: how many bytes there are)");
        String text = "q1,2;b30,1;f4,2;pw45,2,16;pd6,1,2;";
        for (int bytes = 0; bytes <= text.length(); bytes++) {
            String part = text.substring(0, bytes);
            if (part.endsWith(";")) {
                Check.taken("town of " + part, Check.read(new ElbowQueue(), part));
            } else {
                faulty(part, bytes, 1);
            }
        }
    }

    private static void firstTokenOfSeveral() {
        Check.sentence("FAULTS, the first TOKEN that has one (its first byte)");
        faulty("q4,10;", 1, 2);
        faulty("q0,10;x", 3, 2);
        faulty("q10,0 ", 1, 2);
        faulty("q0,0;b1,4;x", 8, 2);
        faulty("q0,0;x1,4;", 5, 1);
        faulty("q0,0;b1,10;pb1,0,17;", 8, 2);
        faulty("q0,0;pb1,4,17;", 9, 2);
        faulty("q0,0;pb100,4,17;", 7, 1);
        faulty("q4,0;" + many("b1,0;", 9), 1, 2);
        faulty("q0,0;" + many("b1,0;", 7) + "b1,4;b1,0;", 43, 2);
        faulty("q0,0;" + many("b1,0;", 8) + "b100,4;", 45, 3);
        faulty("q0,0;" + many("pb1,0,0;", 7) + "pb1,0,99;pb1,0,0;", 67, 2);
        faulty("q0,0;" + many("pb1,0,0;", 8) + "px", 69, 3);
    }

    private static void leastOfOneToken() {
        Check.sentence("FAULTS, of one TOKEN the least");
        faulty("q100,0;", 1, 1);
        faulty("q0,100;", 3, 1);
        faulty("q0,0;b1,100;", 8, 1);
        faulty("q0,0;pb1,0,100;", 11, 1);
        faulty("q0,0;" + many("b1,0;", 8) + "x1,0;", 45, 1);
        faulty("q0,0;" + many("pb1,0,0;", 8) + "b1,0;", 69, 1);
        faulty("q0,0;" + many("b1,0;", 8) + many("pb1,0,0;", 8) + "b1,0;", 109, 1);
    }

    private static void allStays() {
        Check.sentence("Promise 7: -1000100 less the place of a FAULT: all stays");
        ElbowQueue q = Check.town("q1,3;f9,0;b9,2;w9,0;pd9,1,0;");
        q.row(2, 1, 5);
        q.image(1);
        q.minutes(2);
        q.ask(0, 0);
        q.set(2, 5, 0);
        Check.due("a fault behind a whole town", Check.read(q, "q3,9;" + many("s1,3;", 8) + "pd1,1,1;x"), FAULT_AT - 53);
        Check.counts(q, "all stays", 1, 4, 1, 2, 4, 1, 3, 2, 0);
        Check.inQueue(q, "all stays", 0, 1, 2, 3);
        Check.person(q, "all stays", 2, 2, 1, 2, 2, 9, 1);
        Check.due("kind", q.kind(2), 2);
        Check.due("trace", q.trace(0), 13);
        Check.due("status", q.status(), 2);
        Check.due("acts", q.undo(), 1);
        Check.due("goes on", q.minutes(2), 3);
        Check.due("the image", q.restore(1), 1);
        Check.inQueue(q, "the image", 0, 1, 2);
        Check.due("the row", q.drop(2), 5);
    }

    private static void latestFault() {
        Check.sentence("Promise 8: The number of the latest FAULT; 0 before one");
        ElbowQueue q = new ElbowQueue();
        Check.due("before one", q.fault(), 0);
        Check.read(q, "q0,0;");
        Check.due("a town is none", q.fault(), 0);
        q.feed(256);
        q.minutes(0);
        q.drop(0);
        Check.due("a refusal, a finding is none", q.fault(), 0);
        Check.read(q, "q0,0;" + many("b1,0;", 9));
        Check.due("3", q.fault(), 3);
        Check.read(q, "q0,0;");
        Check.due("a town leaves it", q.fault(), 3);
        Check.read(q, "q0,10;");
        Check.due("2", q.fault(), 2);
        q.town();
        Check.due("1", q.fault(), 1);
        q.image(0);
        q.restore(0);
        Check.due("a restored town leaves it", q.fault(), 1);
    }
}
