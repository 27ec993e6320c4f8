/** What every test of the project uses: due answers, towns from texts, the closing word. */
final class Check {
    static final int NONE = -1000000, BAD = -1000001, STATE = -1000002, FULL = -1000003;
    static final int NULL = -1000011, PLACE = -1000012, KIND = -1000013, SIZE = -1000014, STORE = -1000015;

    private static int wrong;
    private static int asked;
    private static String sentence = "";

    private Check() {
    }

    /** What of the document is looked at from here on: it stands ahead of each wrong answer. */
    static void sentence(String words) {
        sentence = words + ": ";
    }

    static void due(String call, int got, int want) {
        asked++;
        if (got != want) {
            wrong++;
            System.out.println(sentence + call + " answered " + got + ", due is " + want);
        }
    }

    static void isTrue(String what, boolean so) {
        asked++;
        if (!so) {
            wrong++;
            System.out.println(sentence + "not so: " + what);
        }
    }

    /** Neither BAD, STATE, FULL nor a finding. */
    static void taken(String call, int got) {
        isTrue(call + " is taken, it answered " + got, got >= NONE);
    }

    /** Feeds a text and reads it: what town() answers. */
    static int read(ElbowQueue queue, String text) {
        for (int i = 0; i < text.length(); i++) {
            due("feed of byte " + i + " of " + text, queue.feed(text.charAt(i)), i + 1);
        }
        return queue.town();
    }

    /** A new object with a town that must be read without a fault. */
    static ElbowQueue town(String text) {
        ElbowQueue queue = new ElbowQueue();
        int people = read(queue, text);
        isTrue(text + " is read", people >= 0);
        return queue;
    }

    /** Asks what = 0, 1, .. of one, and compares as many as are due. */
    static void person(ElbowQueue queue, String where, int person, int... want) {
        for (int what = 0; what < want.length; what++) {
            due(where + " person(" + person + ", " + what + ")", queue.person(person, what), want[what]);
        }
    }

    static void belief(ElbowQueue queue, String where, int person, int belief, int origin) {
        due(where + ": what " + person + " believes", queue.person(person, 3), belief);
        due(where + ": the origin of " + person, queue.person(person, 5), origin);
    }

    static void inQueue(ElbowQueue queue, String where, int... want) {
        for (int k = 0; k < want.length; k++) {
            due(where + " place(" + k + ")", queue.place(k), want[k]);
        }
        due(where + " place(" + want.length + ")", queue.place(want.length), NONE);
        due(where + " count(4)", queue.count(4), want.length);
    }

    static void counts(ElbowQueue queue, String where, int... want) {
        for (int what = 0; what < want.length; what++) {
            due(where + " count(" + what + ")", queue.count(what), want[what]);
        }
    }

    static void end() {
        System.out.println(asked + " answers, " + wrong + " of them wrong");
        if (wrong != 0 || asked == 0) {
            System.exit(1);
        }
    }
}
