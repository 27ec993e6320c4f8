import java.util.ArrayList;
import java.util.List;
import java.util.function.Supplier;

/** Two objects of one history: a call is made on one of them, and all that can be seen of both must be the same. */
final class Twins {
    interface Call {
        int of(ElbowQueue queue);
    }

    /** In this town the queue is just person k behind k minutes: seen() of one item answers what the item is. */
    private static final String READING_BEGINS = "q0,0;d0,0;", READING_GOES_ON = "pd0,0,0;pd0,0,0;pd0,0,0;pd0,0,0;";
    private static final String TOWN = "q1,4;f9,0;b5,0;w3,2;d8,3;pb6,0,4;pw3,3,7;ps9,0,2;pd4,0,0;";
    private static final int STATUS = 3;

    private Twins() {
    }

    static void feed(ElbowQueue queue, String text) {
        for (int i = 0; i < text.length(); i++) {
            queue.feed(text.charAt(i));
        }
    }

    /** Makes the town in which an item of 0 to 4 is read by seen(row, i, 1). */
    static void makeReadable(ElbowQueue queue) {
        feed(queue, READING_BEGINS + READING_GOES_ON);
        Check.due("the reading town", queue.town(), 5);
    }

    /** Something of all: a town with acts, rows, images, a fault, a trace, a finding, bytes on the tape. */
    static ElbowQueue standing() {
        ElbowQueue queue = Check.town(TOWN);
        queue.town();
        queue.row(0, 0, 3);
        queue.set(0, 0, 1);
        queue.set(0, 1, 2);
        queue.set(0, 2, 4);
        queue.row(1, 1, 2);
        queue.set(1, 0, 3);
        queue.set(1, 1, 100);
        queue.row(6, 2, 0);
        queue.row(7, 2, 1);
        queue.image(0);
        queue.minutes(2);
        queue.say(1, 3);
        queue.hatch(2, 3);
        queue.go(2);
        queue.minutes(1);
        queue.image(1);
        queue.ask(1, 0);
        queue.as(0, 5);
        feed(queue, READING_BEGINS);
        return queue;
    }

    /** Rows and a finding, but no town. */
    static ElbowQueue withoutTown() {
        ElbowQueue queue = new ElbowQueue();
        queue.row(0, 0, 3);
        queue.set(0, 1, 2);
        queue.row(1, 1, 2);
        queue.row(2, 0, -1);
        feed(queue, READING_BEGINS);
        return queue;
    }

    /** What is refused changes nothing. */
    static void refused(String name, Supplier<ElbowQueue> history, Call call, int refusal) {
        leaves(name, history, call, refusal, history.get().status());
    }

    /** What is found changes nothing but the status. */
    static void found(String name, Call call, int finding) {
        leaves(name, Twins::standing, call, finding, -1000010 - finding);
    }

    /** What is only asked changes nothing. */
    static void asked(String name, Call call) {
        leaves(name, Twins::standing, call, call.of(standing()), STATUS);
    }

    static void leaves(String name, Supplier<ElbowQueue> history, Call call, int answer, int status) {
        ElbowQueue touched = history.get();
        Check.due(name, call.of(touched), answer);
        Check.due("status behind " + name, touched.status(), status);
        List<Integer> got = all(touched);
        List<Integer> want = all(history.get());
        Check.isTrue(name + " changes nothing else, " + got + " as " + want, got.equals(want));
    }

    /** All that can be seen of an object; nothing of it is left behind that. */
    private static List<Integer> all(ElbowQueue queue) {
        List<Integer> seen = new ArrayList<>();
        seen.add(queue.fault());
        for (int i = 0; i < 7; i++) {
            seen.add(queue.trace(i));
        }
        addTown(seen, queue);
        for (int acts = queue.count(7); acts > 0; acts--) {
            seen.add(queue.undo());
            addShort(seen, queue);
        }
        for (int k = 0; k < 2; k++) {
            seen.add(queue.restore(k));
            addShort(seen, queue);
        }
        feed(queue, READING_GOES_ON);
        seen.add(queue.town());
        seen.add(queue.fault());
        makeReadable(queue);
        addRows(seen, queue);
        return seen;
    }

    private static void addTown(List<Integer> seen, ElbowQueue queue) {
        for (int what = 0; what < 9; what++) {
            seen.add(queue.count(what));
        }
        for (int person = 0; person < queue.count(1); person++) {
            seen.add(queue.kind(person));
            for (int what = 0; what < 6; what++) {
                seen.add(queue.person(person, what));
            }
        }
        for (int k = 0; k <= queue.count(4); k++) {
            seen.add(queue.place(k));
        }
        seen.add(queue.lives());
    }

    private static void addShort(List<Integer> seen, ElbowQueue queue) {
        for (int what = 3; what < 8; what++) {
            seen.add(queue.count(what));
        }
        for (int k = 0; k < 3; k++) {
            seen.add(queue.place(k));
            seen.add(queue.person(k, 3));
        }
        seen.add(queue.lives());
    }

    private static void addRows(List<Integer> seen, ElbowQueue queue) {
        for (int row = 0; row < 8; row++) {
            for (int i = 0; i < 3; i++) {
                seen.add(queue.seen(row, i, 1));
            }
            seen.add(queue.set(row, 0, 70000));
            seen.add(queue.drop(row));
        }
    }
}
