import java.util.Arrays;

/**
 * Post for yesterday: an office that takes one letter each eve for the same people a day ago,
 * and only such a one that leads to its being sent.
 */
public final class EvePost {
    public static final int NONE = -1000000, BAD = -1000001, STATE = -1000002, FULL = -1000003;

    private static final int FOUND = -1000010;
    private static final int NULL = 1, PLACE = 2, KIND = 3, SIZE = 4, STORE = 5;
    private static final int FAULTY = -1000100;

    private static final int MOST_PEOPLE = 6;
    private static final int MOST_LETTERS = 1 << MOST_PEOPLE;
    private static final int MOST_KIND = 5;
    private static final int MOST_DAYS = 9999;
    private static final int MOST_ACTS = 24;
    private static final int MOST_POSTED = 24;
    private static final int MOST_CHAIN = 5;
    private static final int MOST_SEED = 999999;
    private static final int IMAGES = 2;

    private final Rows shelf = new Rows();
    private final Tape tape = new Tape();
    private final Town now = new Town();
    private final Town[] images = new Town[IMAGES];
    private final Foretold foretold = new Foretold();
    private final Trail trail = new Trail();
    /** Who had done it the day before each act that can be undone, the oldest first. */
    private final int[] undoable = new int[MOST_ACTS];
    private int acts = 0;
    private int finding = 0;

    public EvePost() {
        for (int k = 0; k < images.length; k++) {
            images[k] = new Town();
        }
    }

    // ---- rows

    public int row(int row, int lane, int n) {
        if (!shelf.isPlace(row) || !shelf.isLane(lane) || n > Rows.MOST_ITEMS) {
            return BAD;
        }
        if (n < 0) {
            return found(SIZE);
        }
        shelf.put(row, lane, n);
        return fine(n);
    }

    public int set(int row, int i, int v) {
        if (!shelf.isPlace(row)) {
            return BAD;
        }
        if (shelf.isMissing(row)) {
            return found(NULL);
        }
        if (!shelf.reaches(row, i, 1)) {
            return found(PLACE);
        }
        return fine(shelf.write(row, i, v));
    }

    public int copy(int a, int i, int b, int j, int n) {
        if (!shelf.isPlace(a) || !shelf.isPlace(b)) {
            return BAD;
        }
        if (shelf.isMissing(a) || shelf.isMissing(b)) {
            return found(NULL);
        }
        if (!shelf.areAlike(a, b)) {
            return found(STORE);
        }
        if (!shelf.reaches(a, i, n) || !shelf.reaches(b, j, n)) {
            return found(PLACE);
        }
        shelf.carry(a, i, b, j, n);
        return fine(n);
    }

    public int drop(int row) {
        if (!shelf.isPlace(row)) {
            return BAD;
        }
        if (shelf.isMissing(row)) {
            return found(NULL);
        }
        return fine(shelf.take(row));
    }

    // ---- towns, days

    public int feed(long w, int n) {
        if (n < 1 || n > Tape.MOST_FED) {
            return BAD;
        }
        return tape.hasRoom(n) ? tape.append(w, n) : FULL;
    }

    public int town() {
        int place = tape.read();
        if (place != Tape.SOUND) {
            return FAULTY - place;
        }
        now.settle(tape);
        acts = 0;
        return now.size();
    }

    public int fault() {
        return tape.latestFault();
    }

    public int post(int letter) {
        if (now.isNone()) {
            return STATE;
        }
        if (!now.isSet(letter)) {
            return BAD;
        }
        if (!now.agrees(letter)) {
            return STATE;
        }
        if (now.day() >= MOST_DAYS) {
            return FULL;
        }
        act(letter);
        return now.day();
    }

    public int posts(int row, int i, int n) {
        int refusal = refusalOfLetters(row, i, n, 1, MOST_POSTED);
        if (refusal != 0) {
            return refusal;
        }
        if (now.day() > MOST_DAYS - n) {
            return FULL;
        }
        int posted = 0;
        while (posted < n && now.agrees(shelf.item(row, i + posted))) {
            act(shelf.item(row, i + posted));
            posted++;
        }
        return fine(posted);
    }

    public int lots(int letter, int seed) {
        if (now.isNone()) {
            return STATE;
        }
        if (!now.isSet(letter) || seed < 1 || seed > MOST_SEED) {
            return BAD;
        }
        if (now.day() >= MOST_DAYS) {
            return FULL;
        }
        act(now.outcomeByLots(letter, seed));
        return now.before();
    }

    public int undo() {
        if (acts < 1 || acts > undoable.length) {
            return STATE;
        }
        acts--;
        now.goBack(undoable[acts]);
        return acts;
    }

    public int person(int person, int what) {
        Person one = now.one(person);
        if (one == null) {
            return BAD;
        }
        switch (what) {
            case 0: return one.whom;
            case 1: return one.many;
            case 2: return holds(now.before(), person) ? 1 : 0;
            default: return BAD;
        }
    }

    public int done(int letter) {
        if (now.isNone()) {
            return STATE;
        }
        return now.isSet(letter) ? now.outcome(letter) : BAD;
    }

    // ---- foretold

    public int agreeing(int i) {
        if (now.isNone()) {
            return STATE;
        }
        if (i < -1) {
            return BAD;
        }
        return i == -1 ? foretold.howManyAgree(now) : foretold.agreeingLetter(now, i);
    }

    public int fullest() {
        return now.isNone() ? STATE : foretold.fullestLetter(now);
    }

    public int culprits(int what) {
        if (now.isNone()) {
            return STATE;
        }
        switch (what) {
            case 0: return foretold.whoHinders(now);
            case 1: return foretold.whoCouldStop(now);
            default: return BAD;
        }
    }

    public int chains(int n, int k) {
        if (now.isNone()) {
            return STATE;
        }
        if (n < 1 || n > MOST_CHAIN || k < -1) {
            return BAD;
        }
        int many = foretold.countChains(now, n);
        if (k == -1) {
            return many;
        }
        return many == 0 || k >= n ? NONE : foretold.letterOfFirstChain(now, n, k);
    }

    public int breaks(int row, int i, int n) {
        int refusal = refusalOfLetters(row, i, n, 0, Rows.MOST_ITEMS);
        if (refusal != 0) {
            return refusal;
        }
        int before = now.before();
        for (int k = 0; k < n; k++) {
            int letter = shelf.item(row, i + k);
            if (!now.agreesAfter(letter, before)) {
                return fine(k);
            }
            before = letter;
        }
        return fine(NONE);
    }

    public int comes(int letter, int set, int what) {
        if (now.isNone()) {
            return STATE;
        }
        if (!now.isSet(letter) || !now.isSet(set) || what < 0 || what > 1) {
            return BAD;
        }
        int above = now.chances(letter, set);
        int below = now.allChances();
        int common = commonDivisor(above, below);
        if (common < 1) {
            return NONE;
        }
        return (what == 0 ? above : below) / common;
    }

    public int likeliest() {
        return now.isNone() ? STATE : foretold.likeliestLetter(now);
    }

    public int lost(int set, int what) {
        if (now.isNone()) {
            return STATE;
        }
        if (!now.isSet(set) || what < 0 || what > 1) {
            return BAD;
        }
        return what == 0 ? foretold.howManyBring(now, set) : foretold.leastThatBrings(now, set);
    }

    public int readBy(int set, int what) {
        if (now.isNone()) {
            return STATE;
        }
        if (!now.isSet(set) || what < 0 || what > 1) {
            return BAD;
        }
        return what == 0 ? foretold.howManyReadBy(now, set) : foretold.leastReadBy(now, set);
    }

    public int image(int k) {
        Town image = imageAt(k);
        if (image == null) {
            return BAD;
        }
        if (now.isNone()) {
            return STATE;
        }
        image.become(now);
        return 1;
    }

    public int restore(int k) {
        Town image = imageAt(k);
        if (image == null) {
            return BAD;
        }
        if (image.isNone()) {
            return STATE;
        }
        now.become(image);
        acts = 0;
        return 1;
    }

    // ---- asked

    public int kind(int person) {
        Person one = now.one(person);
        return one == null ? BAD : one.ownKind();
    }

    public int as(int person, int kind) {
        Person one = now.one(person);
        if (one == null || kind < 0 || kind > MOST_KIND) {
            return BAD;
        }
        return isOf(one, kind) ? fine(one.number) : found(KIND);
    }

    public int ask(int person, int what) {
        Person one = now.one(person);
        if (one == null || what < 0 || what > 1) {
            return BAD;
        }
        trail.clear();
        return what == 0 ? one.size(trail) : one.mark(trail);
    }

    public int trace(int i) {
        return trail.at(i);
    }

    public int count(int what) {
        switch (what) {
            case 0: return shelf.howMany();
            case 1: return now.size();
            case 2: return now.day();
            case 3: return now.before();
            case 4: return acts;
            case 5: return tape.size();
            default: return BAD;
        }
    }

    public int status() {
        return finding;
    }

    // ---- what the calls have in common

    private int found(int number) {
        finding = number;
        return FOUND - number;
    }

    private int fine(int answer) {
        finding = 0;
        return answer;
    }

    /** What posts and breaks refuse of letters that a row tells; 0 if nothing. */
    private int refusalOfLetters(int row, int i, int n, int least, int most) {
        if (now.isNone()) {
            return STATE;
        }
        if (!shelf.isPlace(row) || n < least || n > most) {
            return BAD;
        }
        if (shelf.isMissing(row)) {
            return found(NULL);
        }
        if (!shelf.reaches(row, i, n)) {
            return found(PLACE);
        }
        for (int k = 0; k < n; k++) {
            if (!now.isSet(shelf.item(row, i + k))) {
                return BAD;
            }
        }
        return 0;
    }

    /** A day goes by that can be undone. */
    private void act(int doers) {
        if (acts >= undoable.length) {
            System.arraycopy(undoable, 1, undoable, 0, undoable.length - 1);
            acts = undoable.length - 1;
        }
        undoable[acts] = now.before();
        acts++;
        now.goOn(doers);
    }

    private Town imageAt(int k) {
        return k < 0 || k >= images.length ? null : images[k];
    }

    private static boolean holds(int set, int person) {
        return (set >> person & 1) != 0;
    }

    private static boolean isOf(Person one, int kind) {
        switch (kind) {
            case 0: return true;
            case 1: return one instanceof TrueOne;
            case 2: return one instanceof CrossOne;
            case 3: return one instanceof LotOne;
            case 4: return one instanceof CrowdOne;
            case 5: return one instanceof MoodyOne;
            default: return false;
        }
    }

    private static int commonDivisor(int a, int b) {
        int high = a;
        int low = b;
        // Two steps at least halve the greater one, so 64 are more than any two ints need.
        for (int step = 0; step < 64 && low != 0; step++) {
            int rest = high % low;
            high = low;
            low = rest;
        }
        return high;
    }

    // ---- people

    /** What is lent to all people. */
    private abstract static class Person {
        static final int TENTHS = 10;

        final int number;
        final int whom;
        final int many;

        Person(int number, int whom, int many) {
            this.number = number;
            this.whom = whom;
            this.many = many;
        }

        abstract int ownKind();

        /** By a letter, those of a set having done it the day before; lots aside. */
        abstract boolean doesIt(int letter, int before);

        /** Of ten chances, how many there are for it that he does it, or doesn't, as told. */
        int tenths(int letter, int before, boolean does) {
            return doesIt(letter, before) == does ? TENTHS : 0;
        }

        int size(Trail trail) {
            trail.leave(10);
            return many;
        }

        int mark(Trail trail) {
            trail.leave(20);
            return number;
        }
    }

    private static class TrueOne extends Person {
        TrueOne(int number, int whom, int many) {
            super(number, whom, many);
        }

        int ownKind() {
            return 1;
        }

        boolean doesIt(int letter, int before) {
            return holds(letter, whom);
        }

        int size(Trail trail) {
            trail.leave(11);
            int lent = super.size(trail);
            return lent + mark(trail);
        }

        int mark(Trail trail) {
            trail.leave(21);
            return super.mark(trail) + whom;
        }
    }

    private static final class CrossOne extends TrueOne {
        CrossOne(int number, int whom, int many) {
            super(number, whom, many);
        }

        int ownKind() {
            return 2;
        }

        boolean doesIt(int letter, int before) {
            return !holds(letter, whom);
        }

        int size(Trail trail) {
            trail.leave(12);
            return -super.size(trail);
        }

        int mark(Trail trail) {
            trail.leave(24);
            return 2 * super.mark(trail);
        }
    }

    private static final class LotOne extends TrueOne {
        LotOne(int number, int whom, int many) {
            super(number, whom, many);
        }

        int ownKind() {
            return 3;
        }

        int tenths(int letter, int before, boolean does) {
            return doesIt(letter, before) == does ? TENTHS - many : many;
        }

        /** Whether a lot that was drawn has him do it just the other way. */
        boolean turnsBy(long lot) {
            return lot % TENTHS < many;
        }

        int mark(Trail trail) {
            trail.leave(22);
            return super.mark(trail) - 1000;
        }
    }

    private static class CrowdOne extends Person {
        CrowdOne(int number, int whom, int many) {
            super(number, whom, many);
        }

        int ownKind() {
            return 4;
        }

        boolean doesIt(int letter, int before) {
            return Integer.bitCount(letter) >= many;
        }

        int size(Trail trail) {
            trail.leave(13);
            return super.size(trail) - 100;
        }

        int mark(Trail trail) {
            trail.leave(23);
            int lent = super.mark(trail);
            return lent - size(trail);
        }
    }

    private static final class MoodyOne extends CrowdOne {
        MoodyOne(int number, int whom, int many) {
            super(number, whom, many);
        }

        int ownKind() {
            return 5;
        }

        /** It is the moody one himself, not the one he looks at, whose day before counts. */
        boolean doesIt(int letter, int before) {
            return holds(letter, whom) == holds(before, number);
        }

        int size(Trail trail) {
            trail.leave(14);
            return 2 * super.size(trail);
        }
    }

    // ---- the trace

    private static final class Trail {
        private static final int MOST_LEFT = 16;

        private final int[] left = new int[MOST_LEFT];
        private int length = 0;

        void clear() {
            length = 0;
        }

        void leave(int body) {
            if (length < left.length) {
                left[length] = body;
                length++;
            }
        }

        int at(int i) {
            return i < 0 || i >= length || i >= left.length ? NONE : left[i];
        }
    }

    // ---- the rows

    private static final class Rows {
        static final int MOST_ITEMS = 40;
        private static final int PLACES = 8;
        private static final int LANES = 3;
        private static final int MISSING = -1;

        private final int[][] items = new int[PLACES][MOST_ITEMS];
        private final int[] lanes = new int[PLACES];
        private final int[] sizes = new int[PLACES];

        Rows() {
            for (int row = 0; row < sizes.length; row++) {
                sizes[row] = MISSING;
            }
        }

        boolean isPlace(int row) {
            return row >= 0 && row < PLACES;
        }

        boolean isLane(int lane) {
            return lane >= 0 && lane < LANES;
        }

        boolean isMissing(int row) {
            return !isPlace(row) || sizes[row] == MISSING;
        }

        boolean areAlike(int a, int b) {
            return isPlace(a) && isPlace(b) && lanes[a] == lanes[b];
        }

        /** Whether a row has n items from i on; said so that no sum can overflow. */
        boolean reaches(int row, int i, int n) {
            return !isMissing(row) && i >= 0 && n >= 0 && n <= sizes[row] && i <= sizes[row] - n;
        }

        int howMany() {
            int many = 0;
            for (int row = 0; row < PLACES; row++) {
                if (!isMissing(row)) {
                    many++;
                }
            }
            return many;
        }

        void put(int row, int lane, int n) {
            if (isPlace(row) && isLane(lane) && n >= 0 && n <= MOST_ITEMS) {
                Arrays.fill(items[row], 0);
                lanes[row] = lane;
                sizes[row] = n;
            }
        }

        int take(int row) {
            if (isMissing(row)) {
                return 0;
            }
            int had = sizes[row];
            sizes[row] = MISSING;
            return had;
        }

        int item(int row, int i) {
            return reaches(row, i, 1) ? items[row][i] : NONE;
        }

        int write(int row, int i, int v) {
            if (!reaches(row, i, 1)) {
                return NONE;
            }
            items[row][i] = narrowed(v, lanes[row]);
            return items[row][i];
        }

        void carry(int a, int i, int b, int j, int n) {
            if (reaches(a, i, n) && reaches(b, j, n)) {
                System.arraycopy(items[a], i, items[b], j, n);
            }
        }

        private static int narrowed(int v, int lane) {
            switch (lane) {
                case 0: return (byte) v;
                case 1: return (short) v;
                default: return v;
            }
        }
    }

    // ---- the tape

    /** Takes bytes, and reads them as people. */
    private static final class Tape {
        static final int SOUND = -1;
        static final int MOST_FED = 8;
        private static final int BITS = 8;
        private static final int MOST_BYTES = 300;
        private static final int MOST_FIGURES = 3;
        private static final int MOST_WHOM = 5;
        private static final int MOST_MANY = 9;
        private static final int MISPLACED = 1, MISTOLD = 2, CROWDED = 3;
        private static final int END = 0, NAME = 1, NUMBER = 2, SIGN = 3, NOTHING = 4;

        private final byte[] bytes = new byte[MOST_BYTES];
        private int length = 0;
        private final Person[] people = new Person[MOST_PEOPLE];
        private int peopleRead = 0;
        private int fault = 0;
        /** The token at hand: what it is, its first byte, and the byte behind it. */
        private int token = END;
        private int first = 0;
        private int behind = 0;

        int size() {
            return length;
        }

        int latestFault() {
            return fault;
        }

        int peopleRead() {
            return peopleRead;
        }

        Person reading(int i) {
            return i < 0 || i >= peopleRead || i >= people.length ? null : people[i];
        }

        boolean hasRoom(int n) {
            return n <= bytes.length - length;
        }

        int append(long w, int n) {
            for (int k = n - 1; k >= 0 && length < bytes.length; k--) {
                bytes[length] = (byte) (w >>> BITS * k);
                length++;
            }
            return length;
        }

        /** Reads what is on the tape, and empties it: the place of a fault, or SOUND. */
        int read() {
            peopleRead = 0;
            behind = 0;
            step();
            boolean sound = true;
            // One round more than there is room for: the word that begins it is the fault.
            for (int round = 0; round <= MOST_PEOPLE && sound; round++) {
                if (round > 0 && token == END) {
                    break;
                }
                sound = readPerson();
            }
            length = 0;
            return sound ? SOUND : first;
        }

        private boolean readPerson() {
            if (!isWord("person")) {
                return faulty(MISPLACED);
            }
            if (peopleRead >= people.length) {
                return faulty(CROWDED);
            }
            step();
            int kind = kindAtHand();
            if (kind == 0) {
                return faulty(MISPLACED);
            }
            step();
            if (!isNumberUpTo(MOST_WHOM)) {
                return false;
            }
            int whom = numberAtHand();
            step();
            if (!isNumberUpTo(MOST_MANY)) {
                return false;
            }
            int many = numberAtHand();
            step();
            if (token != SIGN) {
                return faulty(MISPLACED);
            }
            people[peopleRead] = newPerson(kind, peopleRead, whom, many);
            peopleRead++;
            step();
            return true;
        }

        private boolean faulty(int number) {
            fault = number;
            return false;
        }

        private boolean isNumberUpTo(int most) {
            if (token != NUMBER) {
                return faulty(MISPLACED);
            }
            return numberAtHand() <= most || faulty(MISTOLD);
        }

        private int kindAtHand() {
            if (isWord("true")) {
                return 1;
            }
            if (isWord("cross")) {
                return 2;
            }
            if (isWord("lot")) {
                return 3;
            }
            if (isWord("crowd")) {
                return 4;
            }
            return isWord("moody") ? 5 : 0;
        }

        private static Person newPerson(int kind, int number, int whom, int many) {
            switch (kind) {
                case 1: return new TrueOne(number, whom, many);
                case 2: return new CrossOne(number, whom, many);
                case 3: return new LotOne(number, whom, many);
                case 4: return new CrowdOne(number, whom, many);
                default: return new MoodyOne(number, whom, many);
            }
        }

        /** Takes the next token in hand. */
        private void step() {
            first = behind;
            while (first < length && isBlank(byteAt(first))) {
                first++;
            }
            behind = first + 1;
            if (first >= length) {
                behind = first;
                token = END;
            } else if (isLetter(byteAt(first))) {
                while (behind < length && isLetter(byteAt(behind))) {
                    behind++;
                }
                token = NAME;
            } else if (isFigure(byteAt(first))) {
                while (behind < length && isFigure(byteAt(behind))) {
                    behind++;
                }
                token = behind - first <= MOST_FIGURES ? NUMBER : NOTHING;
            } else {
                token = byteAt(first) == ';' ? SIGN : NOTHING;
            }
        }

        private boolean isWord(String word) {
            if (token != NAME || behind - first != word.length()) {
                return false;
            }
            for (int i = 0; i < word.length(); i++) {
                if (byteAt(first + i) != word.charAt(i)) {
                    return false;
                }
            }
            return true;
        }

        private int numberAtHand() {
            int value = 0;
            for (int i = first; i < behind; i++) {
                value = 10 * value + (byteAt(i) - '0');
            }
            return value;
        }

        /** A byte of the tape; 0, which is no token's, beyond its end. */
        private int byteAt(int i) {
            return i < 0 || i >= length || i >= bytes.length ? 0 : bytes[i];
        }

        private static boolean isBlank(int b) {
            return b == 32 || b == 10;
        }

        private static boolean isLetter(int b) {
            return b >= 'a' && b <= 'z';
        }

        private static boolean isFigure(int b) {
            return b >= '0' && b <= '9';
        }
    }

    // ---- the town

    /** The people with the day that they have come to; no people: no town. */
    private static final class Town {
        private static final long MULTIPLIER = 16807L;
        private static final long MODULUS = 2147483647L;

        private final Person[] people = new Person[MOST_PEOPLE];
        private int size = 0;
        private int day = 0;
        private int before = 0;
        /** What comes of each letter if nobody did it the day before. */
        private final int[] fresh = new int[MOST_LETTERS];
        /** Those whose own day before turns what they do. */
        private int moody = 0;

        boolean isNone() {
            return size == 0;
        }

        int size() {
            return size;
        }

        int day() {
            return day;
        }

        int before() {
            return before;
        }

        /** How many letters there are, which go from 0 on. */
        int letters() {
            return 1 << size;
        }

        boolean isSet(int set) {
            return set >= 0 && set < letters();
        }

        Person one(int person) {
            return person < 0 || person >= size || person >= people.length ? null : people[person];
        }

        void settle(Tape tape) {
            size = Math.min(tape.peopleRead(), people.length);
            for (int i = 0; i < size; i++) {
                people[i] = tape.reading(i);
            }
            day = 0;
            before = 0;
            learn();
        }

        void become(Town other) {
            // One by one, as LANGUAGE.md can be read so that arraycopy is for numbers alone.
            for (int i = 0; i < people.length; i++) {
                people[i] = other.one(i);
            }
            System.arraycopy(other.fresh, 0, fresh, 0, fresh.length);
            size = other.size;
            day = other.day;
            before = other.before;
            moody = other.moody;
        }

        void goOn(int doers) {
            day++;
            before = doers;
        }

        void goBack(int doersBefore) {
            day--;
            before = doersBefore;
        }

        int outcome(int letter) {
            return outcomeAfter(letter, before);
        }

        boolean agrees(int letter) {
            return agreesAfter(letter, before);
        }

        boolean agreesAfter(int letter, int doersBefore) {
            return outcomeAfter(letter, doersBefore) == letter;
        }

        /** The moody ones by whom a letter agrees, if just they had done it the day before. */
        int moodOf(int letter) {
            return outcomeAfter(letter, 0) ^ letter;
        }

        int moodyAmong(int set) {
            return set & moody;
        }

        int outcomeByLots(int letter, int seed) {
            int doers = outcome(letter);
            long lot = seed;
            for (int i = 0; i < size; i++) {
                if (one(i) instanceof LotOne drawer) {
                    lot = lot * MULTIPLIER % MODULUS;
                    doers ^= drawer.turnsBy(lot) ? 1 << i : 0;
                }
            }
            return doers;
        }

        /** Of all chances, those that by a letter just the people of a set do it. */
        int chances(int letter, int set) {
            int chances = 1;
            for (int i = 0; i < size; i++) {
                Person one = one(i);
                chances *= one == null ? 0 : one.tenths(letter, before, holds(set, i));
            }
            return chances;
        }

        int allChances() {
            int chances = 1;
            for (int i = 0; i < size; i++) {
                chances *= Person.TENTHS;
            }
            return chances;
        }

        /** A moody one who did it the day before does just the other way, whatever the letter. */
        private int outcomeAfter(int letter, int doersBefore) {
            if (letter < 0 || letter >= fresh.length) {
                return NONE;
            }
            return fresh[letter] ^ moodyAmong(doersBefore);
        }

        private void learn() {
            moody = 0;
            for (int i = 0; i < size; i++) {
                moody |= one(i) instanceof MoodyOne ? 1 << i : 0;
            }
            for (int letter = 0; letter < letters() && letter < fresh.length; letter++) {
                fresh[letter] = freshOutcome(letter);
            }
        }

        private int freshOutcome(int letter) {
            int doers = 0;
            for (int i = 0; i < size; i++) {
                Person one = one(i);
                if (one != null && one.doesIt(letter, 0)) {
                    doers |= 1 << i;
                }
            }
            return doers;
        }
    }

    // ---- what is foretold

    /** Goes through all letters of a town; changes nothing of it. */
    private static final class Foretold {
        /** How many chains of so many days there are, by the moody ones who did it the day before. */
        private final int[][] ways = new int[MOST_CHAIN + 1][MOST_LETTERS];

        int howManyAgree(Town town) {
            return howManyReadBy(town, everybody(town));
        }

        int agreeingLetter(Town town, int i) {
            int seen = 0;
            for (int letter = 0; letter < town.letters(); letter++) {
                if (town.agrees(letter)) {
                    if (seen == i) {
                        return letter;
                    }
                    seen++;
                }
            }
            return NONE;
        }

        int fullestLetter(Town town) {
            int best = NONE;
            int most = -1;
            for (int letter = 0; letter < town.letters(); letter++) {
                if (town.agrees(letter) && Integer.bitCount(letter) > most) {
                    best = letter;
                    most = Integer.bitCount(letter);
                }
            }
            return best;
        }

        int likeliestLetter(Town town) {
            int best = 0;
            int most = town.chances(0, 0);
            for (int letter = 1; letter < town.letters(); letter++) {
                int chances = town.chances(letter, letter);
                if (chances > most) {
                    best = letter;
                    most = chances;
                }
            }
            return best;
        }

        /** One who does it just if the letter says so agrees with it either way. */
        int whoHinders(Town town) {
            int hinderers = 0;
            for (int i = 0; i < town.size(); i++) {
                int one = 1 << i;
                if (someAgrees(town, one, one) || someAgrees(town, one, 0)) {
                    hinderers |= one;
                }
            }
            return hinderers;
        }

        int whoCouldStop(Town town) {
            int stoppers = 0;
            for (int i = 0; i < town.size(); i++) {
                int one = 1 << i;
                if (!someAgrees(town, one, one) || !someAgrees(town, one, 0)) {
                    stoppers |= one;
                }
            }
            return stoppers;
        }

        int howManyBring(Town town, int set) {
            int many = 0;
            for (int letter = 0; letter < town.letters(); letter++) {
                if (town.outcome(letter) == set) {
                    many++;
                }
            }
            return many;
        }

        int leastThatBrings(Town town, int set) {
            for (int letter = 0; letter < town.letters(); letter++) {
                if (town.outcome(letter) == set) {
                    return letter;
                }
            }
            return NONE;
        }

        int howManyReadBy(Town town, int readers) {
            int others = town.before() & ~readers;
            int many = 0;
            for (int letter = 0; letter < town.letters(); letter++) {
                if ((town.outcome(letter) & readers | others) == letter) {
                    many++;
                }
            }
            return many;
        }

        int leastReadBy(Town town, int readers) {
            return leastAgreeing(town, readers, town.before() & ~readers);
        }

        /** Counts the chains of n days from now on, and keeps the counts that lead to it. */
        int countChains(Town town, int n) {
            if (n < 1 || n >= ways.length) {
                return 0;
            }
            Arrays.fill(ways[0], 1);
            for (int days = 1; days <= n; days++) {
                Arrays.fill(ways[days], 0);
                for (int letter = 0; letter < town.letters(); letter++) {
                    int mood = town.moodOf(letter);
                    if (mood >= 0 && mood < MOST_LETTERS) {
                        ways[days][mood] += waysAfter(town, days - 1, letter);
                    }
                }
            }
            return waysAfter(town, n, town.before());
        }

        /** Goes by the counts of countChains(n), which must have been the latest. */
        int letterOfFirstChain(Town town, int n, int k) {
            int last = town.before();
            for (int days = n - 1; days >= n - 1 - k && days >= 0; days--) {
                last = leastThatGoesOn(town, last, days);
                if (last == NONE) {
                    return NONE;
                }
            }
            return last;
        }

        private int everybody(Town town) {
            return town.letters() - 1;
        }

        private int leastThatGoesOn(Town town, int before, int daysLeft) {
            for (int letter = 0; letter < town.letters(); letter++) {
                if (town.agreesAfter(letter, before) && waysAfter(town, daysLeft, letter) > 0) {
                    return letter;
                }
            }
            return NONE;
        }

        private int waysAfter(Town town, int days, int before) {
            int mood = town.moodyAmong(before);
            if (days < 0 || days >= ways.length || mood < 0 || mood >= MOST_LETTERS) {
                return 0;
            }
            return ways[days][mood];
        }

        /** Whether some letter agrees, if one does as told (his bit, or 0) whatever the letter. */
        private boolean someAgrees(Town town, int one, int does) {
            return leastAgreeing(town, ~one, does) != NONE;
        }

        /** The least letter that agrees, if it moves only the readers, and others do it as told. */
        private int leastAgreeing(Town town, int readers, int others) {
            for (int letter = 0; letter < town.letters(); letter++) {
                if ((town.outcome(letter) & readers | others) == letter) {
                    return letter;
                }
            }
            return NONE;
        }
    }
}
