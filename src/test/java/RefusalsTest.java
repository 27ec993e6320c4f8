/** Of each call: which refusal comes first, and that what is refused, found or only asked changes nothing. */
public final class RefusalsTest {
    private static final String STAYS = "What is refused, or found, changes nothing but status()";

    public static void main(String[] args) {
        withoutTown();
        stateAheadOfBad();
        badAheadOfState();
        badRows();
        badActs();
        badForetold();
        badAsked();
        stateOfActs();
        fullTape();
        lastMinute();
        findings();
        foretold();
        asked();
        Check.end();
    }

    private static void none(String name, Twins.Call call, int refusal) {
        Twins.refused(name, Twins::withoutTown, call, refusal);
    }

    private static void bad(String name, Twins.Call call) {
        Twins.refused(name, Twins::standing, call, Check.BAD);
    }

    private static void state(String name, Twins.Call call) {
        Twins.refused(name, Twins::standing, call, Check.STATE);
    }

    private static void withoutTown() {
        Check.sentence("STATE: no TOWN; where it is not told there is no such PERSON: BAD");
        none("minutes", q -> q.minutes(1), Check.STATE);
        none("hatch", q -> q.hatch(0, 0), Check.STATE);
        none("undo", q -> q.undo(), Check.STATE);
        none("ahead", q -> q.ahead(0, 0), Check.STATE);
        none("order", q -> q.order(0, 0), Check.STATE);
        none("lives", q -> q.lives(), Check.STATE);
        none("words", q -> q.words(0, 0), Check.STATE);
        none("spread", q -> q.spread(0), Check.STATE);
        none("elbows", q -> q.elbows(0), Check.STATE);
        none("grows", q -> q.grows(0, 0, 0, 0), Check.STATE);
        none("opens", q -> q.opens(1, 0), Check.STATE);
        none("seen", q -> q.seen(0, 0, 1), Check.STATE);
        none("image", q -> q.image(0), Check.STATE);
        none("restore", q -> q.restore(0), Check.STATE);
        none("say", q -> q.say(0, 0), Check.BAD);
        none("go", q -> q.go(0), Check.BAD);
        none("person", q -> q.person(0, 0), Check.BAD);
        none("served", q -> q.served(0, 0), Check.BAD);
        none("kind", q -> q.kind(0), Check.BAD);
        none("as", q -> q.as(0, 0), Check.BAD);
        none("ask", q -> q.ask(0, 0), Check.BAD);
    }

    private static void stateAheadOfBad() {
        Check.sentence("STATE: no TOWN (ahead of BAD)");
        none("minutes(0)", q -> q.minutes(0), Check.STATE);
        none("minutes(21)", q -> q.minutes(21), Check.STATE);
        none("hatch(4, 0)", q -> q.hatch(4, 0), Check.STATE);
        none("hatch(0, 10)", q -> q.hatch(0, 10), Check.STATE);
        none("ahead(61, 0)", q -> q.ahead(61, 0), Check.STATE);
        none("ahead(0, 4)", q -> q.ahead(0, 4), Check.STATE);
        none("order(-1, 0)", q -> q.order(-1, 0), Check.STATE);
        none("order(0, -1)", q -> q.order(0, -1), Check.STATE);
        none("words(-1, 0)", q -> q.words(-1, 0), Check.STATE);
        none("words(0, 2)", q -> q.words(0, 2), Check.STATE);
        none("spread(4)", q -> q.spread(4), Check.STATE);
        none("elbows(9)", q -> q.elbows(9), Check.STATE);
        none("grows(17, 0, 0, 0)", q -> q.grows(17, 0, 0, 0), Check.STATE);
        none("grows(0, 9, 0, 0)", q -> q.grows(0, 9, 0, 0), Check.STATE);
        none("grows(0, 0, 11, 0)", q -> q.grows(0, 0, 11, 0), Check.STATE);
        none("grows(0, 0, 0, 2)", q -> q.grows(0, 0, 0, 2), Check.STATE);
        none("opens(0, 0)", q -> q.opens(0, 0), Check.STATE);
        none("opens(1, 2)", q -> q.opens(1, 2), Check.STATE);
        none("seen(8, 0, 0)", q -> q.seen(8, 0, 0), Check.STATE);
        none("seen(0, 0, 17)", q -> q.seen(0, 0, 17), Check.STATE);
        none("seen of a missing row", q -> q.seen(5, 0, 0), Check.STATE);
        none("seen beyond the end", q -> q.seen(0, 3, 1), Check.STATE);
    }

    private static void badAheadOfState() {
        Check.sentence("BAD, then STATE, where no other order is told");
        none("image(2)", q -> q.image(2), Check.BAD);
        none("image(-1)", q -> q.image(-1), Check.BAD);
        none("restore(2)", q -> q.restore(2), Check.BAD);
        none("restore(-1)", q -> q.restore(-1), Check.BAD);
        bad("say of what is none to one who has left", q -> q.say(2, 4));
        bad("say of what is none to one who is to come", q -> q.say(7, -1));
    }

    private static void badRows() {
        Check.sentence(STAYS + ", rows");
        bad("row(8, 0, 1)", q -> q.row(8, 0, 1));
        bad("row(-1, 0, 1)", q -> q.row(-1, 0, 1));
        bad("row(0, 3, 1)", q -> q.row(0, 3, 1));
        bad("row(0, -1, 1)", q -> q.row(0, -1, 1));
        bad("row(0, 0, 41)", q -> q.row(0, 0, 41));
        bad("row(8, 0, -1), ahead of SIZE", q -> q.row(8, 0, -1));
        bad("row(0, 3, -1), ahead of SIZE", q -> q.row(0, 3, -1));
        bad("set(8, 0, 1)", q -> q.set(8, 0, 1));
        bad("set(-1, 0, 1)", q -> q.set(-1, 0, 1));
        bad("copy(8, 0, 0, 0, 1)", q -> q.copy(8, 0, 0, 0, 1));
        bad("copy(0, 0, 8, 0, 1)", q -> q.copy(0, 0, 8, 0, 1));
        bad("copy(-1, 0, 0, 0, 1)", q -> q.copy(-1, 0, 0, 0, 1));
        bad("copy(0, 0, -1, 0, 1)", q -> q.copy(0, 0, -1, 0, 1));
        bad("copy(5, 0, 8, 0, 1), ahead of NULL", q -> q.copy(5, 0, 8, 0, 1));
        bad("copy(8, 0, 5, 0, 1), ahead of NULL", q -> q.copy(8, 0, 5, 0, 1));
        bad("copy(0, -1, 8, 0, 1), ahead of PLACE", q -> q.copy(0, -1, 8, 0, 1));
        bad("drop(8)", q -> q.drop(8));
        bad("drop(-1)", q -> q.drop(-1));
        bad("seen(8, 0, 0)", q -> q.seen(8, 0, 0));
        bad("seen(0, 0, 17)", q -> q.seen(0, 0, 17));
        bad("seen(0, 0, -1)", q -> q.seen(0, 0, -1));
        bad("seen(5, 0, 17), ahead of NULL", q -> q.seen(5, 0, 17));
        bad("seen(0, -1, 17), ahead of PLACE", q -> q.seen(0, -1, 17));
        bad("seen of an item that is nobody", q -> q.seen(1, 0, 2));
    }

    private static void badActs() {
        Check.sentence(STAYS + ", towns, acts");
        bad("feed(-1)", q -> q.feed(-1));
        bad("feed(256)", q -> q.feed(256));
        bad("minutes(0)", q -> q.minutes(0));
        bad("minutes(21)", q -> q.minutes(21));
        bad("say(8, 0)", q -> q.say(8, 0));
        bad("say(-1, 0)", q -> q.say(-1, 0));
        bad("say(1, 4)", q -> q.say(1, 4));
        bad("say(1, -1)", q -> q.say(1, -1));
        bad("go(8)", q -> q.go(8));
        bad("go(-1)", q -> q.go(-1));
        bad("hatch(4, 0)", q -> q.hatch(4, 0));
        bad("hatch(-1, 0)", q -> q.hatch(-1, 0));
        bad("hatch(0, 10)", q -> q.hatch(0, 10));
        bad("hatch(0, -1)", q -> q.hatch(0, -1));
        bad("person(8, 0)", q -> q.person(8, 0));
        bad("person(-1, 0)", q -> q.person(-1, 0));
        bad("person(0, 6)", q -> q.person(0, 6));
        bad("person(0, -1)", q -> q.person(0, -1));
        bad("place(-1)", q -> q.place(-1));
        bad("image(2)", q -> q.image(2));
        bad("image(-1)", q -> q.image(-1));
        bad("restore(2)", q -> q.restore(2));
        bad("restore(-1)", q -> q.restore(-1));
    }

    private static void badForetold() {
        Check.sentence(STAYS + ", foretold");
        bad("ahead(61, 0)", q -> q.ahead(61, 0));
        bad("ahead(0, 4)", q -> q.ahead(0, 4));
        bad("order(61, 0)", q -> q.order(61, 0));
        bad("order(0, -1)", q -> q.order(0, -1));
        bad("words(-1, 0)", q -> q.words(-1, 0));
        bad("words(0, 2)", q -> q.words(0, 2));
        bad("served(8, 0)", q -> q.served(8, 0));
        bad("served(0, 2)", q -> q.served(0, 2));
        bad("spread(4)", q -> q.spread(4));
        bad("elbows(9)", q -> q.elbows(9));
        bad("grows(17, 0, 0, 0)", q -> q.grows(17, 0, 0, 0));
        bad("grows(0, 9, 0, 0)", q -> q.grows(0, 9, 0, 0));
        bad("grows(0, 0, 11, 0)", q -> q.grows(0, 0, 11, 0));
        bad("grows(0, 0, 0, 2)", q -> q.grows(0, 0, 0, 2));
        bad("opens(0, 0)", q -> q.opens(0, 0));
        bad("opens(1, 2)", q -> q.opens(1, 2));
    }

    private static void badAsked() {
        Check.sentence(STAYS + ", asked");
        bad("kind(8)", q -> q.kind(8));
        bad("as(8, 0)", q -> q.as(8, 0));
        bad("as(-1, 0)", q -> q.as(-1, 0));
        bad("as(0, 6)", q -> q.as(0, 6));
        bad("as(0, -1)", q -> q.as(0, -1));
        bad("ask(8, 0)", q -> q.ask(8, 0));
        bad("ask(-1, 0)", q -> q.ask(-1, 0));
        bad("ask(0, 2)", q -> q.ask(0, 2));
        bad("ask(0, -1)", q -> q.ask(0, -1));
        bad("count(9)", q -> q.count(9));
        bad("count(-1)", q -> q.count(-1));
    }

    private static void stateOfActs() {
        Check.sentence("STATE: he is not in the QUEUE");
        state("say to one who has left", q -> q.say(2, 1));
        state("say to one who is to come", q -> q.say(7, 1));
        state("go of one who has left", q -> q.go(2));
        state("go of one who is to come", q -> q.go(7));
    }

    private static ElbowQueue withFullTape() {
        ElbowQueue queue = new ElbowQueue();
        for (int i = 0; i < 160; i++) {
            queue.feed("q0,0;".charAt(i % 5));
        }
        return queue;
    }

    private static void fullTape() {
        Check.sentence("Promise 6: BAD; FULL");
        Twins.refused("feed(0)", RefusalsTest::withFullTape, q -> q.feed(0), Check.FULL);
        Twins.refused("feed(255)", RefusalsTest::withFullTape, q -> q.feed(255), Check.FULL);
        Twins.refused("feed(-1)", RefusalsTest::withFullTape, q -> q.feed(-1), Check.BAD);
        Twins.refused("feed(256)", RefusalsTest::withFullTape, q -> q.feed(256), Check.BAD);
    }

    private static ElbowQueue atMinute990() {
        ElbowQueue queue = Check.town("q1,7;s99,1;w99,0;");
        for (int n = 0; n < 99; n++) {
            queue.minutes(10);
        }
        queue.drop(0);
        return queue;
    }

    private static void lastMinute() {
        Check.sentence("Promise 9: BAD; FULL: beyond MINUTE 999");
        Twins.refused("minutes(10)", RefusalsTest::atMinute990, q -> q.minutes(10), Check.FULL);
        Twins.refused("minutes(20)", RefusalsTest::atMinute990, q -> q.minutes(20), Check.FULL);
        Twins.refused("minutes(21)", RefusalsTest::atMinute990, q -> q.minutes(21), Check.BAD);
        Twins.refused("minutes(0)", RefusalsTest::atMinute990, q -> q.minutes(0), Check.BAD);
    }

    private static void findings() {
        Check.sentence(STAYS + ", findings, of several the first");
        Twins.found("row(0, 0, -1)", q -> q.row(0, 0, -1), Check.SIZE);
        Twins.found("row(5, 2, -1)", q -> q.row(5, 2, -1), Check.SIZE);
        Twins.found("set(5, 0, 1)", q -> q.set(5, 0, 1), Check.NULL);
        Twins.found("set(5, -1, 1)", q -> q.set(5, -1, 1), Check.NULL);
        Twins.found("set(0, 3, 1)", q -> q.set(0, 3, 1), Check.PLACE);
        Twins.found("set(0, -1, 1)", q -> q.set(0, -1, 1), Check.PLACE);
        Twins.found("copy(0, 0, 5, 0, 1)", q -> q.copy(0, 0, 5, 0, 1), Check.NULL);
        Twins.found("copy(5, 0, 0, 0, 1)", q -> q.copy(5, 0, 0, 0, 1), Check.NULL);
        Twins.found("copy(5, 9, 1, -1, 1)", q -> q.copy(5, 9, 1, -1, 1), Check.NULL);
        Twins.found("copy(0, 0, 1, 0, 1)", q -> q.copy(0, 0, 1, 0, 1), Check.STORE);
        Twins.found("copy(0, 9, 1, 0, 1)", q -> q.copy(0, 9, 1, 0, 1), Check.STORE);
        Twins.found("copy(0, 0, 0, 1, 3)", q -> q.copy(0, 0, 0, 1, 3), Check.PLACE);
        Twins.found("copy(0, 1, 0, 0, 3)", q -> q.copy(0, 1, 0, 0, 3), Check.PLACE);
        Twins.found("copy(0, 0, 0, 1, -1)", q -> q.copy(0, 0, 0, 1, -1), Check.PLACE);
        Twins.found("drop(5)", q -> q.drop(5), Check.NULL);
        Twins.found("seen(5, 0, 0)", q -> q.seen(5, 0, 0), Check.NULL);
        Twins.found("seen(5, -1, 0)", q -> q.seen(5, -1, 0), Check.NULL);
        Twins.found("seen(0, -1, 0)", q -> q.seen(0, -1, 0), Check.PLACE);
        Twins.found("seen(0, 0, 4)", q -> q.seen(0, 0, 4), Check.PLACE);
        Twins.found("seen(1, 1, 2), ahead of an item that is nobody", q -> q.seen(1, 1, 2), Check.PLACE);
        Twins.found("as(1, 4)", q -> q.as(1, 4), Check.KIND);
    }

    private static void foretold() {
        Check.sentence("FORETOLD (nothing changes)");
        Twins.asked("ahead(60, 1)", q -> q.ahead(60, 1));
        Twins.asked("order(60, 0)", q -> q.order(60, 0));
        Twins.asked("order(3, 1)", q -> q.order(3, 1));
        Twins.asked("lives()", q -> q.lives());
        Twins.asked("words(1, 0)", q -> q.words(1, 0));
        Twins.asked("words(9, 1)", q -> q.words(9, 1));
        Twins.asked("served(3, 0)", q -> q.served(3, 0));
        Twins.asked("served(1, 1)", q -> q.served(1, 1));
        Twins.asked("spread(2)", q -> q.spread(2));
        Twins.asked("elbows(8)", q -> q.elbows(8));
        Twins.asked("grows(2, 8, 5, 0)", q -> q.grows(2, 8, 5, 0));
        Twins.asked("opens(1, 0)", q -> q.opens(1, 0));
        Twins.leaves("seen(0, 0, 2)", Twins::standing, q -> q.seen(0, 0, 2), Check.NONE, 0);
        Twins.leaves("seen(6, 0, 0)", Twins::standing, q -> q.seen(6, 0, 0), Twins.standing().lives(), 0);
    }

    private static void asked() {
        Check.sentence("What is only asked changes nothing");
        Twins.asked("person(1, 3)", q -> q.person(1, 3));
        Twins.asked("place(1)", q -> q.place(1));
        Twins.asked("place(99)", q -> q.place(99));
        Twins.asked("fault()", q -> q.fault());
        Twins.asked("kind(3)", q -> q.kind(3));
        Twins.asked("trace(0)", q -> q.trace(0));
        Twins.asked("trace(16)", q -> q.trace(16));
        Twins.asked("count(8)", q -> q.count(8));
        Twins.asked("status()", q -> q.status());
        Twins.leaves("as(3, 4)", Twins::standing, q -> q.as(3, 4), 3, 0);
        Twins.leaves("a row's own items", Twins::standing, q -> q.copy(0, 0, 0, 0, 3), 3, 0);
        Twins.leaves("an item as it is", Twins::standing, q -> q.set(0, 1, 2), 2, 0);
        Check.due("the fault that is there", Twins.standing().fault(), 1);
        Check.due("the finding that is there", Twins.standing().status(), 3);
        Check.due("the acts that are there", Twins.standing().count(7), 6);
    }
}
