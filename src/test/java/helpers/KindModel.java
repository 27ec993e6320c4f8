import java.util.List;

/** Kinds and asks as classes that inherit: Java's own calls find the body. */
class KindModel {
    int number;
    int stood;
    int believes;
    List<Integer> trace;

    static KindModel of(char sort) {
        return switch (sort) {
            case 'b' -> new Believer();
            case 'w' -> new Follower();
            case 's' -> new Sunk();
            case 'f' -> new First();
            default -> new Doubter();
        };
    }

    KindModel about(int whose, int minutes, int word, List<Integer> left) {
        number = whose;
        stood = minutes;
        believes = word;
        trace = left;
        return this;
    }

    boolean is(int kind) {
        Class<?>[] kinds = {KindModel.class, Believer.class, Follower.class, Sunk.class, First.class, Doubter.class};
        return kinds[kind].isInstance(this);
    }

    int size() {
        trace.add(10);
        return stood;
    }

    int mark() {
        trace.add(20);
        return number;
    }

    static class Believer extends KindModel {
        @Override
        int size() {
            trace.add(11);
            return super.size() + mark();
        }

        @Override
        int mark() {
            trace.add(21);
            return super.mark() + believes;
        }
    }

    static final class Follower extends Believer {
        @Override
        int size() {
            trace.add(12);
            return 0 - super.size();
        }

        @Override
        int mark() {
            trace.add(24);
            return super.mark() * 2;
        }
    }

    static final class Sunk extends Believer {
        @Override
        int mark() {
            trace.add(22);
            return super.mark() - 1000;
        }
    }

    static class First extends KindModel {
        @Override
        int size() {
            trace.add(13);
            return super.size() - 100;
        }

        @Override
        int mark() {
            trace.add(23);
            return super.mark() - size();
        }
    }

    static final class Doubter extends First {
        @Override
        int size() {
            trace.add(14);
            return super.size() * 2;
        }
    }
}
