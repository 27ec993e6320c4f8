import java.util.function.Supplier;

/** A call by one of its numbers: which are taken, which refused. Each is asked of a new object. */
final class Edges {
    interface Call {
        int of(ElbowQueue queue, int number);
    }

    private final String name;
    private final Supplier<ElbowQueue> making;
    private final Call call;

    Edges(String name, Supplier<ElbowQueue> making, Call call) {
        this.name = name;
        this.making = making;
        this.call = call;
    }

    private int answer(int number) {
        return call.of(making.get(), number);
    }

    private void refused(int number, int refusal) {
        Check.due(name + " by " + number, answer(number), refusal);
    }

    Edges takes(int low, int high) {
        for (int number = low; number <= high; number++) {
            Check.taken(name + " by " + number, answer(number));
        }
        return this;
    }

    Edges below(int low, int refusal) {
        refused(low - 1, refusal);
        refused(low - 2, refusal);
        refused(Integer.MIN_VALUE, refusal);
        return this;
    }

    Edges above(int high, int refusal) {
        refused(high + 1, refusal);
        refused(high + 2, refusal);
        refused(Integer.MAX_VALUE, refusal);
        return this;
    }

    /** From low to high alone, BAD on both sides. */
    Edges only(int low, int high) {
        return takes(low, high).below(low, Check.BAD).above(high, Check.BAD);
    }

    /** From low on without an end. */
    Edges from(int low) {
        return takes(low, low + 40).takes(Integer.MAX_VALUE - 1, Integer.MAX_VALUE - 1).below(low, Check.BAD);
    }
}
