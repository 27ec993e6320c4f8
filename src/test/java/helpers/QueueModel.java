import java.math.BigInteger;
import java.util.ArrayDeque;
import java.util.ArrayList;
import java.util.Deque;
import java.util.List;
import java.util.function.Predicate;

/**
 * The document told a second time, as plainly as can be and with no thought of speed or room: every minute makes a new
 * world out of the one before, and what is foretold is looked up in a list of worlds.
 */
public final class QueueModel {
    static final int NONE = -1000000, BAD = -1000001, STATE = -1000002, FULL = -1000003;

    record Person(int number, char sort, int patience, int need, int belief, int origin, int stood, int where) {
        Person believing(int word, int from) {
            return new Person(number, sort, patience, need, word, from, stood, where);
        }

        Person standing(int minutes) {
            return new Person(number, sort, patience, need, belief, origin, minutes, where);
        }

        Person at(int state) {
            return new Person(number, sort, patience, need, belief, origin, stood, state);
        }
    }

    record World(List<Person> people, List<Integer> queue, int minute, int cause, int serves) {
        Person get(int number) {
            return people.get(number);
        }

        int believes(int number) {
            return get(number).sort == 'f' ? cause : get(number).belief;
        }

        World with(Person person) {
            List<Person> others = new ArrayList<>(people);
            others.set(person.number, person);
            return new World(others, queue, minute, cause, serves);
        }

        World without(int number, int state) {
            List<Integer> rest = new ArrayList<>(queue);
            rest.remove(Integer.valueOf(number));
            World gone = with(get(number).at(state));
            return new World(gone.people, rest, minute, cause, serves);
        }

        World join(Person person) {
            List<Person> all = new ArrayList<>(people);
            if (person.number < all.size()) {
                all.set(person.number, person.at(1));
            } else {
                all.add(person.at(1));
            }
            List<Integer> longer = new ArrayList<>(queue);
            longer.add(person.number);
            return new World(all, longer, minute, cause, serves);
        }

        World serving(int other) {
            return new World(people, queue, minute, cause, other);
        }

        Person nextPasser() {
            return people.stream().filter(p -> p.where == 0).findFirst().orElse(null);
        }

        boolean dead() {
            return queue.isEmpty() && nextPasser() == null;
        }

        long in(int state) {
            return people.stream().filter(p -> p.where == state).count();
        }

        World after(boolean passerThere) {
            World world = this;
            for (int k = 1; k < queue.size(); k++) {
                int ahead = queue.get(k - 1);
                Person one = get(queue.get(k));
                boolean takes = one.sort == 'w' || "bs".indexOf(one.sort) >= 0 && one.belief == 0;
                if (believes(ahead) != 0 && takes) {
                    world = world.with(one.believing(believes(ahead), get(ahead).origin));
                }
            }
            world = new World(world.people, world.queue, minute + 1, cause, serves);
            if (serves != 0 && world.minute % serves == 0 && !world.queue.isEmpty()) {
                world = world.without(world.queue.get(0), 2);
            }
            int crowd = world.queue.size();
            for (int number : List.copyOf(world.queue)) {
                world = world.with(world.get(number).standing(world.get(number).stood + 1));
                if (world.leaves(number, crowd)) {
                    world = world.without(number, 3);
                }
            }
            Person passer = world.nextPasser();
            if (passer == null) {
                return world;
            }
            boolean joins = passerThere && world.queue.size() >= passer.need;
            return joins ? world.join(passer) : world.with(passer.at(4));
        }

        boolean leaves(int number, int crowd) {
            Person one = get(number);
            int bears = one.patience;
            if ("bws".indexOf(one.sort) >= 0 && one.belief != 0) {
                bears = bears * 2;
            }
            if (one.sort == 's') {
                bears = bears + one.stood / 2;
            }
            if (one.sort == 'd') {
                bears = one.patience / 2;
            }
            return one.stood > bears && !(one.sort == 'w' && crowd >= 6);
        }

        List<World> film(int minutes) {
            List<World> film = new ArrayList<>();
            film.add(this);
            for (int n = 0; n < minutes; n++) {
                film.add(film.get(n).after(true));
            }
            return film;
        }

        int first(int minutes, Predicate<World> so) {
            List<World> film = film(minutes);
            for (int n = 0; n <= minutes; n++) {
                if (so.test(film.get(n))) {
                    return n;
                }
            }
            return NONE;
        }
    }

    private final int[][] rows = new int[8][];
    private final int[] lanes = new int[8];
    private final StringBuilder tape = new StringBuilder();
    private final World[] images = new World[2];
    private final Deque<World> acts = new ArrayDeque<>();
    private final List<Integer> trace = new ArrayList<>();
    private World world;
    private int fault;
    private int status;

    private int found(int number) {
        status = number;
        return -1000010 - number;
    }

    private int fine(int answer) {
        status = 0;
        return answer;
    }

    private boolean somebody(int person) {
        return world != null && person >= 0 && person < world.people.size();
    }

    private void act(World then) {
        acts.push(world);
        if (acts.size() > 24) {
            acts.removeLast();
        }
        world = then;
    }

    private boolean outside(int row, int i, int n) {
        return i < 0 || n < 0 || (long) i + n > rows[row].length;
    }

    public int row(int row, int lane, int n) {
        if (row < 0 || row > 7 || lane < 0 || lane > 2 || n > 40) return BAD;
        if (n < 0) return found(4);
        rows[row] = new int[n];
        lanes[row] = lane;
        return fine(n);
    }

    public int set(int row, int i, int v) {
        if (row < 0 || row > 7) return BAD;
        if (rows[row] == null) return found(1);
        if (outside(row, i, 1)) return found(2);
        rows[row][i] = lanes[row] == 0 ? (byte) v : lanes[row] == 1 ? (short) v : v;
        return fine(rows[row][i]);
    }

    public int copy(int a, int i, int b, int j, int n) {
        if (a < 0 || a > 7 || b < 0 || b > 7) return BAD;
        if (rows[a] == null || rows[b] == null) return found(1);
        if (lanes[a] != lanes[b]) return found(5);
        if (outside(a, i, n) || outside(b, j, n)) return found(2);
        int[] before = rows[a].clone();
        for (int k = 0; k < n; k++) {
            rows[b][j + k] = before[i + k];
        }
        return fine(n);
    }

    public int drop(int row) {
        if (row < 0 || row > 7) return BAD;
        if (rows[row] == null) return found(1);
        int size = rows[row].length;
        rows[row] = null;
        return fine(size);
    }

    public int feed(int letter) {
        if (letter < 0 || letter > 255) return BAD;
        if (tape.length() == 160) return FULL;
        tape.append((char) letter);
        return tape.length();
    }

    public int town() {
        TextModel text = new TextModel(tape.toString());
        tape.setLength(0);
        World read = text.read();
        if (read == null) {
            fault = text.fault;
            return -1000100 - text.place;
        }
        world = read;
        acts.clear();
        return world.people.size();
    }

    public int fault() {
        return fault;
    }

    public int minutes(int n) {
        if (world == null) return STATE;
        if (n < 1 || n > 20) return BAD;
        if (world.minute + n > 999) return FULL;
        for (int i = 0; i < n; i++) {
            act(world.after(true));
        }
        return world.queue.size();
    }

    public int say(int person, int belief) {
        if (!somebody(person) || belief < 0 || belief > 3) return BAD;
        if (!world.queue.contains(person)) return STATE;
        int before = world.believes(person);
        act(world.with(world.get(person).believing(belief, person)));
        return before;
    }

    public int go(int person) {
        if (!somebody(person)) return BAD;
        if (!world.queue.contains(person)) return STATE;
        act(world.without(person, 3));
        return world.queue.size();
    }

    public int hatch(int cause, int serves) {
        if (world == null) return STATE;
        if (cause < 0 || cause > 3 || serves < 0 || serves > 9) return BAD;
        int before = world.cause * 10 + world.serves;
        act(new World(world.people, world.queue, world.minute, cause, serves));
        return before;
    }

    public int undo() {
        if (acts.isEmpty()) return STATE;
        world = acts.pop();
        return acts.size();
    }

    public int person(int person, int what) {
        if (!somebody(person) || what < 0 || what > 5) return BAD;
        Person one = world.get(person);
        int place = world.queue.indexOf(person);
        int[] all = {place < 0 ? NONE : place, one.where, one.stood, world.believes(person), one.patience, one.origin};
        return all[what];
    }

    public int place(int k) {
        if (k < 0) return BAD;
        return world == null || k >= world.queue.size() ? NONE : world.queue.get(k);
    }

    public int ahead(int n, int what) {
        if (world == null) return STATE;
        if (n < 0 || n > 60 || what < 0 || what > 3) return BAD;
        return (int) world.film(n).get(n).in(what + 1);
    }

    public int order(int n, int k) {
        if (world == null) return STATE;
        if (n < 0 || n > 60 || k < 0) return BAD;
        List<Integer> queue = world.film(n).get(n).queue;
        return k < queue.size() ? queue.get(k) : NONE;
    }

    public int lives() {
        return world == null ? STATE : world.first(200, World::dead);
    }

    public int words(int k, int what) {
        if (world == null) return STATE;
        if (k < 0 || what < 0 || what > 1) return BAD;
        if (k >= world.queue.size()) return NONE;
        int person = world.queue.get(k);
        List<Integer> lives = new ArrayList<>();
        for (int word = 0; word < 4; word++) {
            int life = world.with(world.get(person).believing(word, person)).first(200, World::dead);
            lives.add(life == NONE ? 1000 : life);
        }
        int best = lives.stream().reduce(what == 0 ? Math::max : Math::min).orElseThrow();
        return lives.indexOf(best);
    }

    public int served(int person, int what) {
        if (!somebody(person) || what < 0 || what > 1) return BAD;
        return world.first(200, w -> w.get(person).where == what + 2);
    }

    public int spread(int belief) {
        if (world == null) return STATE;
        if (belief < 0 || belief > 3) return BAD;
        return world.first(60, w -> !w.queue.isEmpty() && w.queue.stream().allMatch(p -> w.believes(p) == belief));
    }

    public int elbows(int k) {
        if (world == null) return STATE;
        if (k < 0 || k > 8) return BAD;
        List<Integer> toCome = world.people.stream().filter(p -> p.where == 0).map(Person::number).toList();
        World crowded = world;
        for (int elbows = 0; elbows <= 12; elbows++) {
            if (elbows > 0) {
                int number = crowded.people.size();
                crowded = crowded.join(new Person(number, 'b', 99, 0, 0, number, 0, 1));
            }
            List<World> film = crowded.film(8);
            if (toCome.stream().filter(p -> film.stream().anyMatch(w -> w.queue.contains(p))).count() >= k) {
                return elbows;
            }
        }
        return NONE;
    }

    public int grows(int k, int n, int c, int what) {
        if (world == null) return STATE;
        if (k < 0 || k > 16 || n < 0 || n > 8 || c < 0 || c > 10 || what < 0 || what > 1) return BAD;
        BigInteger above = BigInteger.ZERO;
        for (int there = 0; there < 1 << n; there++) {
            World then = world;
            for (int minute = 0; minute < n; minute++) {
                then = then.after((there >> minute & 1) == 1);
            }
            int present = Integer.bitCount(there);
            if (then.queue.size() >= k) {
                above = above.add(BigInteger.valueOf(c).pow(present).multiply(BigInteger.valueOf(10 - c).pow(n - present)));
            }
        }
        BigInteger below = BigInteger.TEN.pow(n);
        BigInteger common = above.gcd(below);
        return (what == 0 ? above : below).divide(common).intValueExact();
    }

    public int opens(int s, int what) {
        if (world == null) return STATE;
        if (s < 1 || s > 9 || what < 0 || what > 1) return BAD;
        int best = -1;
        int most = -1;
        List<World> asItIs = world.film(30);
        for (int n = 30; n >= 0; n--) {
            World end = asItIs.get(n).serving(s).film(60 - n).get(60 - n);
            int many = (int) (end.in(2) - world.in(2));
            if (many > most) {
                most = many;
                best = n;
            }
        }
        return what == 0 ? best : most;
    }

    public int seen(int row, int i, int n) {
        if (world == null) return STATE;
        if (row < 0 || row > 7 || n < 0 || n > 16) return BAD;
        if (rows[row] == null) return found(1);
        if (outside(row, i, n)) return found(2);
        List<Integer> told = new ArrayList<>();
        for (int k = 0; k < n; k++) {
            if (!somebody(rows[row][i + k])) return BAD;
            told.add(rows[row][i + k]);
        }
        return fine(world.first(200, w -> w.queue.equals(told)));
    }

    public int image(int k) {
        if (k < 0 || k > 1) return BAD;
        if (world == null) return STATE;
        images[k] = world;
        return 1;
    }

    public int restore(int k) {
        if (k < 0 || k > 1) return BAD;
        if (images[k] == null) return STATE;
        world = images[k];
        acts.clear();
        return 1;
    }

    public int kind(int person) {
        return somebody(person) ? " bwsfd".indexOf(world.get(person).sort) : BAD;
    }

    public int as(int person, int kind) {
        if (!somebody(person) || kind < 0 || kind > 5) return BAD;
        return KindModel.of(world.get(person).sort).is(kind) ? fine(person) : found(3);
    }

    public int ask(int person, int what) {
        if (!somebody(person) || what < 0 || what > 1) return BAD;
        trace.clear();
        Person one = world.get(person);
        KindModel kind = KindModel.of(one.sort).about(person, one.stood, world.believes(person), trace);
        return what == 0 ? kind.size() : kind.mark();
    }

    public int trace(int i) {
        return i >= 0 && i < trace.size() ? trace.get(i) : NONE;
    }

    public int count(int what) {
        int present = 0;
        for (int[] row : rows) {
            present += row == null ? 0 : 1;
        }
        boolean none = world == null;
        int people = none ? 0 : world.people.size();
        int passers = none ? 0 : (int) world.people.stream().filter(p -> p.need >= 0).count();
        int[] all = {present, people, passers, none ? 0 : world.minute, none ? 0 : world.queue.size(),
            none ? 0 : world.cause, none ? 0 : world.serves, acts.size(), tape.length()};
        return what < 0 || what > 8 ? BAD : all[what];
    }

    public int status() {
        return status;
    }
}
