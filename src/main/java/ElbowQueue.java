/**
 * A queue before a door: its waiters, the passers who may join, the minutes that go by, and what can be foretold of
 * it. The numbered promises of DOC.md say what each call answers; nothing here throws, a refusal is an answer.
 */
public final class ElbowQueue {
    public static final int NONE = -1000000, BAD = -1000001, STATE = -1000002, FULL = -1000003;

    private static final int FINDINGS = -1000010;
    private static final int NULL_ROW = 1, NO_PLACE = 2, OTHER_KIND = 3, BELOW_NONE = 4, OTHER_LANE = 5;
    private static final int FAULT_AT = -1000100;

    private static final int BELIEVER = 1, FOLLOWER = 2, SUNK = 3, FIRST = 4, DOUBTER = 5;
    private static final int TO_COME = 0, WAITING = 1, GOT = 2, LEFT = 3, GONE_BY = 4;

    private static final int MOST_WAITERS = 8, MOST_PASSERS = 8, MOST_PEOPLE = 16, MOST_ELBOWS = 12;
    private static final int MOST_BELIEF = 3, MOST_CAUSE = 3, MOST_SERVES = 9, MOST_PATIENCE = 99, MOST_NEED = 16;
    private static final int LAST_MINUTE = 999, MOST_MINUTES = 20;
    private static final int FAR = 200, NEAR = 60, LAST_OPENING = 30, MOST_GROWING = 8, SURE = 10;
    private static final int IMAGES = 2;

    private final Rows rows;
    private final Reader reader;
    private final Told draft;
    private final Told told;
    private final Town town;
    private final Acts acts;
    private final Foretold foretold;
    private final Asks asks;
    private final Told[] imagesTold;
    private final Town[] imagesTown;
    private final boolean[] imageKept;
    private boolean hasTown;
    private int latestFault;
    private int latestFinding;

    public ElbowQueue() {
        rows = new Rows();
        reader = new Reader();
        draft = new Told();
        told = new Told();
        town = new Town(told, MOST_PEOPLE);
        acts = new Acts(told);
        foretold = new Foretold(told, town);
        asks = new Asks(told, town);
        imagesTold = new Told[IMAGES];
        imagesTown = new Town[IMAGES];
        imageKept = new boolean[IMAGES];
        for (int k = 0; k < IMAGES; k++) {
            imagesTold[k] = new Told();
            imagesTown[k] = new Town(imagesTold[k], MOST_PEOPLE);
        }
    }

    // ---- rows

    public int row(int row, int lane, int n) {
        if (!Rows.isNumber(row) || !Rows.isLane(lane) || n > Rows.MOST_ITEMS) {
            return BAD;
        }
        if (n < 0) {
            return found(BELOW_NONE);
        }
        rows.lay(row, lane, n);
        return fine(n);
    }

    public int set(int row, int i, int v) {
        if (!Rows.isNumber(row)) {
            return BAD;
        }
        if (rows.isMissing(row)) {
            return found(NULL_ROW);
        }
        if (!rows.spans(row, i, 1)) {
            return found(NO_PLACE);
        }
        return fine(rows.put(row, i, v));
    }

    public int copy(int a, int i, int b, int j, int n) {
        if (!Rows.isNumber(a) || !Rows.isNumber(b)) {
            return BAD;
        }
        if (rows.isMissing(a) || rows.isMissing(b)) {
            return found(NULL_ROW);
        }
        if (rows.laneOf(a) != rows.laneOf(b)) {
            return found(OTHER_LANE);
        }
        if (!rows.spans(a, i, n) || !rows.spans(b, j, n)) {
            return found(NO_PLACE);
        }
        rows.bring(a, i, b, j, n);
        return fine(n);
    }

    public int drop(int row) {
        if (!Rows.isNumber(row)) {
            return BAD;
        }
        if (rows.isMissing(row)) {
            return found(NULL_ROW);
        }
        return fine(rows.takeAway(row));
    }

    // ---- towns, acts

    public int feed(int letter) {
        if (!within(letter, 255)) {
            return BAD;
        }
        return reader.isFull() ? FULL : reader.take(letter);
    }

    public int town() {
        int number = reader.read(draft);
        if (number != 0) {
            latestFault = number;
            return FAULT_AT - reader.at();
        }
        told.become(draft);
        town.begin();
        acts.forget();
        hasTown = true;
        return told.people;
    }

    public int fault() {
        return latestFault;
    }

    public int minutes(int n) {
        if (!hasTown) {
            return STATE;
        }
        if (n < 1 || n > MOST_MINUTES) {
            return BAD;
        }
        if (town.minute + n > LAST_MINUTE) {
            return FULL;
        }
        for (int i = 0; i < n; i++) {
            acts.keep(town);
            town.minuteGoesBy(true);
        }
        return town.size;
    }

    public int say(int person, int belief) {
        if (!isPerson(person) || !within(belief, MOST_BELIEF)) {
            return BAD;
        }
        if (town.where[person] != WAITING) {
            return STATE;
        }
        int before = town.believes(person);
        acts.keep(town);
        town.hears(person, belief);
        return before;
    }

    public int go(int person) {
        if (!isPerson(person)) {
            return BAD;
        }
        int k = town.placeOf(person);
        if (k == NONE) {
            return STATE;
        }
        acts.keep(town);
        town.takeOut(k, LEFT);
        return town.size;
    }

    public int hatch(int cause, int serves) {
        if (!hasTown) {
            return STATE;
        }
        if (!within(cause, MOST_CAUSE) || !within(serves, MOST_SERVES)) {
            return BAD;
        }
        int before = 10 * town.cause + town.serves;
        acts.keep(town);
        town.cause = cause;
        town.serves = serves;
        return before;
    }

    public int undo() {
        if (acts.kept() == 0) {
            return STATE;
        }
        acts.giveBack(town);
        return acts.kept();
    }

    public int person(int person, int what) {
        if (!isPerson(person)) {
            return BAD;
        }
        switch (what) {
            case 0: return town.placeOf(person);
            case 1: return town.where[person];
            case 2: return town.stood[person];
            case 3: return town.believes(person);
            case 4: return told.patience[person];
            case 5: return town.origin[person];
            default: return BAD;
        }
    }

    public int place(int k) {
        return k < 0 ? BAD : town.whoIsAt(k);
    }

    // ---- foretold

    public int ahead(int n, int what) {
        if (!hasTown) {
            return STATE;
        }
        if (!within(n, NEAR) || !within(what, 3)) {
            return BAD;
        }
        return foretold.behind(n).howMany(WAITING + what);
    }

    public int order(int n, int k) {
        if (!hasTown) {
            return STATE;
        }
        if (!within(n, NEAR) || k < 0) {
            return BAD;
        }
        return foretold.behind(n).whoIsAt(k);
    }

    public int lives() {
        return hasTown ? foretold.life() : STATE;
    }

    public int words(int k, int what) {
        if (!hasTown) {
            return STATE;
        }
        if (k < 0 || !within(what, 1)) {
            return BAD;
        }
        int one = town.whoIsAt(k);
        return one == NONE ? NONE : foretold.bestWord(one, what == 0);
    }

    public int served(int person, int what) {
        if (!isPerson(person) || !within(what, 1)) {
            return BAD;
        }
        return foretold.whenIs(person, what == 0 ? GOT : LEFT);
    }

    public int spread(int belief) {
        if (!hasTown) {
            return STATE;
        }
        return within(belief, MOST_BELIEF) ? foretold.whenAllBelieve(belief) : BAD;
    }

    public int elbows(int k) {
        if (!hasTown) {
            return STATE;
        }
        return within(k, MOST_PASSERS) ? foretold.fewestElbows(k) : BAD;
    }

    public int grows(int k, int n, int c, int what) {
        if (!hasTown) {
            return STATE;
        }
        if (!within(k, MOST_PEOPLE) || !within(n, MOST_GROWING) || !within(c, SURE) || !within(what, 1)) {
            return BAD;
        }
        return foretold.odds(k, n, c, what == 0);
    }

    public int opens(int s, int what) {
        if (!hasTown) {
            return STATE;
        }
        if (s < 1 || s > MOST_SERVES || !within(what, 1)) {
            return BAD;
        }
        return foretold.bestOpening(s, what == 0);
    }

    public int seen(int row, int i, int n) {
        if (!hasTown) {
            return STATE;
        }
        if (!Rows.isNumber(row) || !within(n, MOST_PEOPLE)) {
            return BAD;
        }
        if (rows.isMissing(row)) {
            return found(NULL_ROW);
        }
        if (!rows.spans(row, i, n)) {
            return found(NO_PLACE);
        }
        for (int k = 0; k < n; k++) {
            int one = rows.item(row, i + k);
            if (!isPerson(one)) {
                return BAD;
            }
            foretold.wanted[k] = one;
        }
        return fine(foretold.whenAreJust(n));
    }

    public int image(int k) {
        if (!within(k, IMAGES - 1)) {
            return BAD;
        }
        if (!hasTown) {
            return STATE;
        }
        imagesTold[k].become(told);
        imagesTown[k].become(town);
        imageKept[k] = true;
        return 1;
    }

    public int restore(int k) {
        if (!within(k, IMAGES - 1)) {
            return BAD;
        }
        if (!imageKept[k]) {
            return STATE;
        }
        told.become(imagesTold[k]);
        town.become(imagesTown[k]);
        acts.forget();
        return 1;
    }

    // ---- asked

    public int kind(int person) {
        return isPerson(person) ? told.kinds[person] : BAD;
    }

    public int as(int person, int kind) {
        if (!isPerson(person) || !within(kind, DOUBTER)) {
            return BAD;
        }
        return Asks.isA(told.kinds[person], kind) ? fine(person) : found(OTHER_KIND);
    }

    public int ask(int person, int what) {
        if (!isPerson(person) || !within(what, 1)) {
            return BAD;
        }
        return asks.begin(person, what);
    }

    public int trace(int i) {
        return asks.traced(i);
    }

    public int count(int what) {
        switch (what) {
            case 0: return rows.present();
            case 1: return told.people;
            case 2: return told.people - told.waiters;
            case 3: return town.minute;
            case 4: return town.size;
            case 5: return town.cause;
            case 6: return town.serves;
            case 7: return acts.kept();
            case 8: return reader.length();
            default: return BAD;
        }
    }

    public int status() {
        return latestFinding;
    }

    private static boolean within(int number, int most) {
        return number >= 0 && number <= most;
    }

    private boolean isPerson(int person) {
        return person >= 0 && person < told.people;
    }

    private int found(int finding) {
        latestFinding = finding;
        return FINDINGS - finding;
    }

    private int fine(int answer) {
        latestFinding = 0;
        return answer;
    }

    /** The ROWS. Items are kept as ints, cut to the lane when they are put. */
    private static final class Rows {
        static final int MOST_ITEMS = 40;
        private static final int ROWS = 8, MISSING = -1;

        private final int[][] items = new int[ROWS][MOST_ITEMS];
        private final int[] lanes = new int[ROWS];
        private final int[] sizes = new int[ROWS];

        Rows() {
            for (int row = 0; row < ROWS; row++) {
                sizes[row] = MISSING;
            }
        }

        static boolean isNumber(int row) {
            return row >= 0 && row < ROWS;
        }

        static boolean isLane(int lane) {
            return lane >= 0 && lane <= 2;
        }

        boolean isMissing(int row) {
            return sizes[row] == MISSING;
        }

        int laneOf(int row) {
            return lanes[row];
        }

        int item(int row, int i) {
            return items[row][i];
        }

        /** Written so that no sum can run over. */
        boolean spans(int row, int i, int n) {
            return i >= 0 && n >= 0 && i <= sizes[row] && n <= sizes[row] - i;
        }

        void lay(int row, int lane, int n) {
            lanes[row] = lane;
            sizes[row] = n;
            for (int i = 0; i < n; i++) {
                items[row][i] = 0;
            }
        }

        int put(int row, int i, int v) {
            int cut = v;
            if (lanes[row] == 0) {
                cut = (byte) v;
            } else if (lanes[row] == 1) {
                cut = (short) v;
            }
            items[row][i] = cut;
            return cut;
        }

        void bring(int a, int i, int b, int j, int n) {
            System.arraycopy(items[a], i, items[b], j, n);
        }

        int takeAway(int row) {
            int size = sizes[row];
            sizes[row] = MISSING;
            return size;
        }

        int present() {
            int present = 0;
            for (int row = 0; row < ROWS; row++) {
                if (sizes[row] != MISSING) {
                    present++;
                }
            }
            return present;
        }
    }

    /** What a text told, which no minute changes. The numbers behind the PEOPLE's are the elbows'. */
    private static final class Told {
        final int[] kinds = new int[MOST_PEOPLE + MOST_ELBOWS];
        final int[] patience = new int[MOST_PEOPLE + MOST_ELBOWS];
        final int[] belief = new int[MOST_PEOPLE];
        final int[] need = new int[MOST_PEOPLE];
        int cause;
        int serves;
        int waiters;
        int people;

        Told() {
            for (int elbow = MOST_PEOPLE; elbow < kinds.length; elbow++) {
                kinds[elbow] = BELIEVER;
                patience[elbow] = MOST_PATIENCE;
            }
        }

        void clear() {
            cause = 0;
            serves = 0;
            waiters = 0;
            people = 0;
        }

        void add(int kind, int bears, int believes, int needs) {
            if (people < MOST_PEOPLE) {
                kinds[people] = kind;
                patience[people] = bears;
                belief[people] = believes;
                need[people] = needs;
                people++;
            }
        }

        void become(Told other) {
            System.arraycopy(other.kinds, 0, kinds, 0, MOST_PEOPLE);
            System.arraycopy(other.patience, 0, patience, 0, MOST_PEOPLE);
            System.arraycopy(other.belief, 0, belief, 0, MOST_PEOPLE);
            System.arraycopy(other.need, 0, need, 0, MOST_PEOPLE);
            cause = other.cause;
            serves = other.serves;
            waiters = other.waiters;
            people = other.people;
        }
    }

    /** THE TAPE, and how a town is read from it. From the first fault on nothing is read: at() stays on its place. */
    private static final class Reader {
        private static final int MOST_BYTES = 160, MOST_FIGURES = 2;
        private static final int CANNOT_STAND = 1, NOT_AS_TOLD = 2, NO_ROOM = 3;
        private static final int END = -1;

        private final int[] tape = new int[MOST_BYTES];
        private int length;
        private int at;
        private int faulty;

        boolean isFull() {
            return length >= MOST_BYTES;
        }

        int take(int letter) {
            tape[length] = letter;
            length++;
            return length;
        }

        int length() {
            return length;
        }

        int at() {
            return at;
        }

        /** The number of the fault, or 0. */
        int read(Told draft) {
            at = 0;
            faulty = 0;
            draft.clear();
            readHead(draft);
            readWaiters(draft);
            readPassers(draft);
            if (faulty == 0 && at < length) {
                faulty = CANNOT_STAND;
            }
            length = 0;
            return faulty;
        }

        private void readHead(Told draft) {
            sign('q');
            draft.cause = number(MOST_CAUSE);
            sign(',');
            draft.serves = number(MOST_SERVES);
            sign(';');
        }

        private void readWaiters(Told draft) {
            for (int n = 0; n <= MOST_WAITERS && faulty == 0; n++) {
                int kind = kindOf(byteAt(at));
                if (kind == 0) {
                    break;
                }
                if (n == MOST_WAITERS) {
                    faulty = NO_ROOM;
                    break;
                }
                at++;
                int bears = number(MOST_PATIENCE);
                sign(',');
                int believes = number(MOST_BELIEF);
                sign(';');
                draft.add(kind, bears, believes, 0);
            }
            draft.waiters = draft.people;
        }

        private void readPassers(Told draft) {
            for (int n = 0; n <= MOST_PASSERS && faulty == 0; n++) {
                if (byteAt(at) != 'p') {
                    break;
                }
                if (n == MOST_PASSERS) {
                    faulty = NO_ROOM;
                    break;
                }
                at++;
                int kind = sort();
                int bears = number(MOST_PATIENCE);
                sign(',');
                int believes = number(MOST_BELIEF);
                sign(',');
                int needs = number(MOST_NEED);
                sign(';');
                draft.add(kind, bears, believes, needs);
            }
        }

        private int byteAt(int i) {
            return i >= 0 && i < length ? tape[i] : END;
        }

        private void sign(int wanted) {
            if (faulty != 0) {
                return;
            }
            if (byteAt(at) == wanted) {
                at++;
            } else {
                faulty = CANNOT_STAND;
            }
        }

        private int sort() {
            int kind = kindOf(byteAt(at));
            if (kind == 0) {
                faulty = CANNOT_STAND;
            } else {
                at++;
            }
            return kind;
        }

        /** Figures in a row are one token: of more than two the whole is none, so one more is looked at. */
        private int number(int most) {
            if (faulty != 0) {
                return 0;
            }
            int figures = 0;
            int value = 0;
            while (figures <= MOST_FIGURES && isFigure(byteAt(at + figures))) {
                value = 10 * value + byteAt(at + figures) - '0';
                figures++;
            }
            if (figures == 0 || figures > MOST_FIGURES) {
                faulty = CANNOT_STAND;
                return 0;
            }
            if (value > most) {
                faulty = NOT_AS_TOLD;
                return 0;
            }
            at += figures;
            return value;
        }

        private static boolean isFigure(int letter) {
            return letter >= '0' && letter <= '9';
        }

        private static int kindOf(int letter) {
            switch (letter) {
                case 'b': return BELIEVER;
                case 'w': return FOLLOWER;
                case 's': return SUNK;
                case 'f': return FIRST;
                case 'd': return DOUBTER;
                default: return 0;
            }
        }
    }

    /** How a town stands at a minute. Towns that foretell have room for elbows, too. */
    private static final class Town {
        private static final int CROWD = 6;

        private final Told told;
        private final int[] queue;
        private final int[] belief;
        final int[] where;
        final int[] stood;
        final int[] origin;
        int minute;
        int cause;
        int serves;
        int size;
        private int next;

        Town(Told told, int room) {
            this.told = told;
            queue = new int[room];
            belief = new int[room];
            where = new int[room];
            stood = new int[room];
            origin = new int[room];
        }

        void begin() {
            minute = 0;
            cause = told.cause;
            serves = told.serves;
            size = 0;
            next = told.waiters;
            for (int one = 0; one < told.people; one++) {
                where[one] = TO_COME;
                stood[one] = 0;
                belief[one] = told.belief[one];
                origin[one] = one;
                if (one < told.waiters) {
                    join(one);
                }
            }
        }

        void become(Town other) {
            int room = Math.min(queue.length, other.queue.length);
            System.arraycopy(other.queue, 0, queue, 0, room);
            System.arraycopy(other.belief, 0, belief, 0, room);
            System.arraycopy(other.where, 0, where, 0, room);
            System.arraycopy(other.stood, 0, stood, 0, room);
            System.arraycopy(other.origin, 0, origin, 0, room);
            minute = other.minute;
            cause = other.cause;
            serves = other.serves;
            size = other.size;
            next = other.next;
        }

        int believes(int one) {
            return told.kinds[one] == FIRST ? cause : belief[one];
        }

        void hears(int one, int word) {
            belief[one] = word;
            origin[one] = one;
        }

        int whoIsAt(int k) {
            return k >= 0 && k < size ? queue[k] : NONE;
        }

        int placeOf(int one) {
            for (int k = 0; k < size; k++) {
                if (queue[k] == one) {
                    return k;
                }
            }
            return NONE;
        }

        int howMany(int state) {
            int many = 0;
            for (int one = 0; one < told.people; one++) {
                if (where[one] == state) {
                    many++;
                }
            }
            return many;
        }

        boolean hasPasserToCome() {
            return next < told.people;
        }

        boolean isOver() {
            return size == 0 && !hasPasserToCome();
        }

        boolean allBelieve(int word) {
            for (int k = 0; k < size; k++) {
                if (believes(queue[k]) != word) {
                    return false;
                }
            }
            return size > 0;
        }

        boolean hasJust(int[] wanted, int n) {
            if (size != n || n > wanted.length) {
                return false;
            }
            for (int k = 0; k < n; k++) {
                if (queue[k] != wanted[k]) {
                    return false;
                }
            }
            return true;
        }

        void minuteGoesBy(boolean passerIsThere) {
            tellOn();
            minute++;
            if (serves != 0 && minute % serves == 0 && size > 0) {
                takeOut(0, GOT);
            }
            standOn();
            meetPasser(passerIsThere);
        }

        /** From the end on, so that each hears what was believed ahead of the minute. */
        private void tellOn() {
            for (int k = size - 1; k > 0; k--) {
                int teller = queue[k - 1];
                int word = believes(teller);
                if (word != 0 && takesOn(queue[k])) {
                    belief[queue[k]] = word;
                    origin[queue[k]] = origin[teller];
                }
            }
        }

        private boolean takesOn(int one) {
            int kind = told.kinds[one];
            return kind == FOLLOWER || (kind == BELIEVER || kind == SUNK) && belief[one] == 0;
        }

        void takeOut(int k, int state) {
            if (k < 0 || k >= size) {
                return;
            }
            where[queue[k]] = state;
            size--;
            for (int i = k; i < size; i++) {
                queue[i] = queue[i + 1];
            }
        }

        private void standOn() {
            boolean crowd = size >= CROWD;
            int staying = 0;
            for (int k = 0; k < size; k++) {
                int one = queue[k];
                stood[one]++;
                boolean held = crowd && told.kinds[one] == FOLLOWER;
                if (stood[one] > bears(one) && !held) {
                    where[one] = LEFT;
                } else {
                    queue[staying] = one;
                    staying++;
                }
            }
            size = staying;
        }

        private int bears(int one) {
            int kind = told.kinds[one];
            int patience = told.patience[one];
            if (kind == FIRST) {
                return patience;
            }
            if (kind == DOUBTER) {
                return patience / 2;
            }
            int hoping = belief[one] == 0 ? patience : 2 * patience;
            return kind == SUNK ? hoping + stood[one] / 2 : hoping;
        }

        private void meetPasser(boolean isThere) {
            if (!hasPasserToCome()) {
                return;
            }
            int one = next;
            next++;
            if (isThere && size >= told.need[one]) {
                join(one);
            } else {
                where[one] = GONE_BY;
            }
        }

        boolean isWaiting(int one) {
            return where[one] == WAITING;
        }

        private void join(int one) {
            if (size < queue.length) {
                queue[size] = one;
                size++;
                where[one] = WAITING;
            }
        }

        void joinElbows(int elbows) {
            for (int elbow = MOST_PEOPLE; elbow < MOST_PEOPLE + elbows && elbow < queue.length; elbow++) {
                belief[elbow] = 0;
                stood[elbow] = 0;
                origin[elbow] = elbow;
                join(elbow);
            }
        }

        /** Minutes till all passers have come: how many of them join. */
        int joinersToCome() {
            int joiners = 0;
            for (int n = 0; n < MOST_PASSERS && hasPasserToCome(); n++) {
                int passer = next;
                minuteGoesBy(true);
                if (isWaiting(passer)) {
                    joiners++;
                }
            }
            return joiners;
        }
    }

    /** The town ahead of each act, in a ring: of more than there is room for the oldest is written over. */
    private static final class Acts {
        private static final int MOST_ACTS = 24;

        private final Town[] ring = new Town[MOST_ACTS];
        private int end;
        private int kept;

        Acts(Told told) {
            for (int i = 0; i < MOST_ACTS; i++) {
                ring[i] = new Town(told, MOST_PEOPLE);
            }
        }

        int kept() {
            return kept;
        }

        void forget() {
            kept = 0;
        }

        void keep(Town town) {
            ring[end].become(town);
            end = end + 1 < MOST_ACTS ? end + 1 : 0;
            kept = Math.min(kept + 1, MOST_ACTS);
        }

        void giveBack(Town town) {
            end = end > 0 ? end - 1 : MOST_ACTS - 1;
            kept--;
            town.become(ring[end]);
        }
    }

    /** What is foretold, on towns of its own, so that nothing changes. */
    private static final class Foretold {
        private static final int OVER = 0, ONE_IS = 1, ALL_BELIEVE = 2, JUST_WANTED = 3;

        final int[] wanted = new int[MOST_PEOPLE];
        private final Town now;
        private final Town then;
        private final Town till;
        private final Town[] path;

        Foretold(Told told, Town now) {
            this.now = now;
            then = new Town(told, MOST_PEOPLE + MOST_ELBOWS);
            till = new Town(told, MOST_PEOPLE);
            path = new Town[MOST_GROWING + 1];
            for (int i = 0; i < path.length; i++) {
                path[i] = new Town(told, MOST_PEOPLE);
            }
        }

        /** When a town is over, minutes change no one in it any more. */
        private static void letGoBy(Town town, int n) {
            for (int i = 0; i < n && !town.isOver(); i++) {
                town.minuteGoesBy(true);
            }
        }

        Town behind(int n) {
            then.become(now);
            letGoBy(then, n);
            return then;
        }

        /** In how many minutes, as then stands now, it shows a sign first; what is over will show no other. */
        private int firstMinute(int most, int sign, int a, int b) {
            for (int n = 0; n <= most; n++) {
                if (shows(sign, a, b)) {
                    return n;
                }
                if (then.isOver()) {
                    return NONE;
                }
                then.minuteGoesBy(true);
            }
            return NONE;
        }

        private boolean shows(int sign, int a, int b) {
            switch (sign) {
                case ONE_IS: return then.where[a] == b;
                case ALL_BELIEVE: return then.allBelieve(a);
                case JUST_WANTED: return then.hasJust(wanted, a);
                default: return then.isOver();
            }
        }

        int life() {
            then.become(now);
            return firstMinute(FAR, OVER, 0, 0);
        }

        int whenIs(int one, int state) {
            then.become(now);
            return firstMinute(FAR, ONE_IS, one, state);
        }

        int whenAllBelieve(int word) {
            then.become(now);
            return firstMinute(NEAR, ALL_BELIEVE, word, 0);
        }

        /** The first n of wanted. */
        int whenAreJust(int n) {
            then.become(now);
            return firstMinute(FAR, JUST_WANTED, n, 0);
        }

        int bestWord(int one, boolean longest) {
            int best = 0;
            int bestLife = 0;
            for (int word = 0; word <= MOST_BELIEF; word++) {
                then.become(now);
                then.hears(one, word);
                int life = firstMinute(FAR, OVER, 0, 0);
                if (life == NONE) {
                    life = FAR + 1;
                }
                if (word == 0 || (longest ? life > bestLife : life < bestLife)) {
                    best = word;
                    bestLife = life;
                }
            }
            return best;
        }

        int fewestElbows(int k) {
            for (int elbows = 0; elbows <= MOST_ELBOWS; elbows++) {
                then.become(now);
                then.joinElbows(elbows);
                if (then.joinersToCome() >= k) {
                    return elbows;
                }
            }
            return NONE;
        }

        int odds(int k, int n, int c, boolean above) {
            path[0].become(now);
            long fits = fitting(0, k, n, c);
            long all = 1;
            for (int i = 0; i < n; i++) {
                all *= SURE;
            }
            long divisor = greatestDivisor(fits, all);
            if (divisor == 0) {
                return BAD;
            }
            return (int) ((above ? fits : all) / divisor);
        }

        /** Of all ways from path[depth] on, each minute being ten ways, those that end with at least k. */
        private long fitting(int depth, int k, int n, int c) {
            Town here = path[depth];
            if (depth >= n || depth + 1 >= path.length) {
                return here.size >= k ? 1 : 0;
            }
            int there = here.hasPasserToCome() ? c : SURE;
            long ways = 0;
            if (there > 0) {
                goOn(depth, true);
                ways += there * fitting(depth + 1, k, n, c);
            }
            if (there < SURE) {
                goOn(depth, false);
                ways += (SURE - there) * fitting(depth + 1, k, n, c);
            }
            return ways;
        }

        private void goOn(int depth, boolean passerIsThere) {
            Town onward = path[depth + 1];
            onward.become(path[depth]);
            onward.minuteGoesBy(passerIsThere);
        }

        private static long greatestDivisor(long a, long b) {
            long large = b;
            long small = a;
            for (int i = 0; i < 100 && small != 0; i++) {
                long rest = large % small;
                large = small;
                small = rest;
            }
            return large;
        }

        int bestOpening(int s, boolean minute) {
            int before = now.howMany(GOT);
            int best = 0;
            int most = 0;
            till.become(now);
            for (int n = 0; n <= LAST_OPENING; n++) {
                then.become(till);
                then.serves = s;
                letGoBy(then, NEAR - n);
                int many = then.howMany(GOT) - before;
                if (many >= most) {
                    best = n;
                    most = many;
                }
                till.minuteGoesBy(true);
            }
            return minute ? best : most;
        }
    }

    /** ASKS: which body begins is looked up by kind, each time anew. */
    private static final class Asks {
        private static final int[] PARENTS = {-1, 0, 1, 1, 0, 4};
        private static final int[] SIZE_BODIES = {10, 11, 12, 0, 13, 14};
        private static final int[] MARK_BODIES = {20, 21, 24, 22, 23, 0};
        private static final int SIZE = 0, MARK = 1;
        private static final int MOST_TRACED = 16, DEEPEST = 20, LEVELS = 6;

        private final Told told;
        private final Town town;
        private final int[] traces = new int[MOST_TRACED];
        private int length;

        Asks(Told told, Town town) {
            this.told = told;
            this.town = town;
        }

        static boolean isA(int kind, int other) {
            int up = kind;
            for (int level = 0; level < LEVELS && up >= 0; level++) {
                if (up == other) {
                    return true;
                }
                up = PARENTS[up];
            }
            return false;
        }

        int traced(int i) {
            return i >= 0 && i < length ? traces[i] : NONE;
        }

        int begin(int one, int what) {
            length = 0;
            return asked(one, what, 0);
        }

        private int asked(int one, int what, int depth) {
            int kind = told.kinds[one];
            for (int level = 0; level < LEVELS && bodyOf(kind, what) == 0; level++) {
                kind = PARENTS[kind];
            }
            return given(bodyOf(kind, what), one, depth + 1);
        }

        /** What is lent to all stands at kind 0, so the way up ends there. */
        private static int bodyOf(int kind, int what) {
            int known = Math.max(kind, 0);
            return what == SIZE ? SIZE_BODIES[known] : MARK_BODIES[known];
        }

        private int given(int body, int one, int depth) {
            if (depth > DEEPEST) {
                return 0;
            }
            leave(body);
            switch (body) {
                case 10: return town.stood[one];
                case 11: return given(10, one, depth + 1) + asked(one, MARK, depth + 1);
                case 12: return -given(11, one, depth + 1);
                case 13: return given(10, one, depth + 1) - 100;
                case 14: return 2 * given(13, one, depth + 1);
                case 20: return one;
                case 21: return given(20, one, depth + 1) + town.believes(one);
                case 22: return given(21, one, depth + 1) - 1000;
                case 23: return given(20, one, depth + 1) - asked(one, SIZE, depth + 1);
                case 24: return 2 * given(21, one, depth + 1);
                default: return 0;
            }
        }

        private void leave(int body) {
            if (length < MOST_TRACED) {
                traces[length] = body;
                length++;
            }
        }
    }
}
