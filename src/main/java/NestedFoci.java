/**
 * Lenses over nested records. SHELVES hold THINGS that are never changed once made; PATHS lead to FOCI in
 * them, which are looked at, folded, sorted and changed; what the calls do stands in ../shared/DOC.md.
 */
public final class NestedFoci {
    public static final int NONE = -1, BAD = -2, STATE = -3, FULL = -4, MADE = -17;
    public static final long NO = Long.MIN_VALUE;

    private static final int SHELVES = 12;
    private static final int PATHS = 8;
    private static final int MOST_BYTES = 100;
    private static final int MOST_PARTS = 12;
    private static final int MOST_HEIGHT = 12;
    private static final int MOST_NODES = 200;
    private static final int MOST_STEPS = 8;
    private static final int MOST_OLD = 10;
    private static final int MOST_MADE = 3000;
    private static final int MOST_LETTERS = 3;
    private static final int LETTERS = 26;
    private static final int FAULT_BASE = -100;

    /** Heights and STEPS keep every recursion well below this; what would go deeper is refused. */
    private static final int DEEPEST = 40;

    /** The kinds of THINGS, numbered both as look() tells them and as they are ORDERED. */
    private static final int NUMBER = 0, PAIR = 1, ROW = 2, MAP = 3, TAGGED = 4;

    /** What OVER makes of a FOCUS (how). */
    private static final int ADD = 0, TIMES = 1, FROM = 2, COUNT_UP = 3, PAIR_UP = 4, TAG = 5, ALONE = 6,
            GIVEN = 7, SWAP = 8, REVERSE = 9, SORT = 10, TURN = 11;

    private final Tape tape = new Tape();
    private final ThingReader thingReader = new ThingReader(tape);
    private final PathReader pathReader = new PathReader(tape);
    private final Shelf[] shelves = new Shelf[SHELVES];
    private final Path[] paths = new Path[PATHS];
    private final Tally made = new Tally();
    private final Changer changer = new Changer(made);
    private final Foci foci = new Foci();
    private final Difference difference = new Difference();
    private final Thing[] keptThings = new Thing[SHELVES];
    private final Path[] keptPaths = new Path[PATHS];
    private boolean isKept = false;

    public NestedFoci() {
        for (int i = 0; i < SHELVES; i++) {
            shelves[i] = new Shelf(new Thing(NUMBER, 0, new int[0], new Thing[0]));
        }
        for (int i = 0; i < PATHS; i++) {
            paths[i] = new Path(new int[0], new int[0]);
        }
    }

    public int feed(int n, int word) {
        if (n < 1 || n > 4) {
            return BAD;
        }
        if (tape.size() + n > MOST_BYTES) {
            return FULL;
        }
        for (int i = 0; i < n; i++) {
            tape.add((word >>> (8 * i)) & 255);
        }
        return tape.size();
    }

    public int thing(int shelf) {
        if (!isShelf(shelf)) {
            return BAD;
        }
        Thing told = thingReader.readWhole();
        int fault = tape.fault();
        tape.clear();
        if (told == null) {
            return FAULT_BASE - fault;
        }
        if (!made.adds(told.nodes)) {
            return MADE;
        }
        shelves[shelf].become(told);
        return told.nodes;
    }

    public int path(int path) {
        if (!isPath(path)) {
            return BAD;
        }
        Path told = pathReader.readWhole();
        int fault = tape.fault();
        tape.clear();
        if (told == null) {
            return FAULT_BASE - fault;
        }
        paths[path] = told;
        return told.size();
    }

    public int join(int path, int other) {
        if (!isPath(path) || !isPath(other)) {
            return BAD;
        }
        if (paths[path].size() + paths[other].size() > MOST_STEPS) {
            return FULL;
        }
        paths[path] = paths[path].goingOnBy(paths[other]);
        return paths[path].size();
    }

    public int over(int shelf, int from, int path, int how, int n) {
        if (!isShelf(shelf) || !isShelf(from) || !isPath(path) || !isHow(how, n)) {
            return BAD;
        }
        Thing given = how == GIVEN ? held(n) : null;
        Thing came = changer.change(held(from), paths[path], how, n, given);
        if (came == null) {
            return MADE;
        }
        if (came.isTooMuch()) {
            return FULL;
        }
        shelves[shelf].become(came);
        return changer.focusCount();
    }

    public int put(int shelf, int what, int a, int b, int n) {
        if (!isShelf(shelf) || !isShelf(a) || !isShelf(b) || what < 0 || what > 2) {
            return BAD;
        }
        boolean isByKey = what == 2;
        if (isByKey && (n < 0 || n >= LETTERS)) {
            return BAD;
        }
        if (isByKey && held(a).kind != MAP) {
            return STATE;
        }
        if (!made.hasRoomFor(1)) {
            return MADE;
        }
        Thing anew = isByKey ? withKey(held(a), n + 1, held(b)) : ofTwo(what == 0 ? PAIR : ROW, held(a), held(b));
        if (anew.isTooMuch()) {
            return FULL;
        }
        made.adds(1);
        shelves[shelf].become(anew);
        return anew.nodes;
    }

    public int take(int shelf, int from, int path, int k) {
        if (!isShelf(shelf) || !isShelf(from) || !isPath(path)) {
            return BAD;
        }
        Thing focus = focusAt(from, path, k);
        if (focus == null) {
            return NONE;
        }
        shelves[shelf].become(focus);
        return focus.nodes;
    }

    public int undo(int shelf) {
        if (!isShelf(shelf)) {
            return BAD;
        }
        if (shelves[shelf].oldCount() == 0) {
            return STATE;
        }
        shelves[shelf].becomeLastOld();
        return shelves[shelf].oldCount();
    }

    public long look(int shelf, int path, int k, int what) {
        Thing focus = focusAt(shelf, path, k);
        if (focus == null) {
            return NO;
        }
        switch (what) {
            case 0:
                return focus.kind;
            case 1:
                return focus.kind == NUMBER || focus.kind == TAGGED ? focus.word : focus.size();
            case 2:
                return focus.nodes;
            case 3:
                return focus.height;
            default:
                return NO;
        }
    }

    public int key(int shelf, int path, int k, int i) {
        Thing focus = focusAt(shelf, path, k);
        if (focus == null || focus.kind != MAP || i < 0 || i >= focus.size()) {
            return NONE;
        }
        return focus.letters(i);
    }

    public long fold(int shelf, int path, int code) {
        if (!isShelf(shelf) || !isPath(path)) {
            return NO;
        }
        foci.find(held(shelf), paths[path]);
        switch (code) {
            case 0:
                return foci.size();
            case 1:
                return foci.sum();
            case 2:
                return foci.isEmpty() ? NO : foci.greatest();
            case 3:
                return foci.isEmpty() ? NO : foci.least();
            case 4:
                return foci.unlike();
            case 5:
                return foci.isEmpty() ? NO : foci.height();
            case 6:
                return foci.nodes();
            default:
                return NO;
        }
    }

    public int best(int shelf, int path, int order, int n) {
        if (!isShelf(shelf) || !isPath(path) || order < 0 || order > 2) {
            return BAD;
        }
        foci.find(held(shelf), paths[path]);
        if (n < 0 || n >= foci.size()) {
            return NONE;
        }
        return foci.sorted(order, n);
    }

    public int order(int a, int b) {
        if (!isShelf(a) || !isShelf(b)) {
            return BAD;
        }
        int way = Thing.compare(held(a), held(b), 0);
        return way < 0 ? -1 : way > 0 ? 1 : 0;
    }

    public int shared(int a, int b) {
        if (!isShelf(a) || !isShelf(b)) {
            return BAD;
        }
        return sharedNodes(held(a), held(b), 0);
    }

    public int differ(int a, int b, int k) {
        if (!isShelf(a) || !isShelf(b)) {
            return BAD;
        }
        difference.find(held(a), held(b));
        if (k == -1) {
            return difference.size();
        }
        return k >= 0 && k < difference.size() ? difference.place(k) : NONE;
    }

    public int fit(int shelf, int path, int w) {
        if (!isShelf(shelf) || !isPath(path) || !isShelf(w)) {
            return BAD;
        }
        Thing given = held(w);
        Thing once = changer.change(held(shelf), paths[path], GIVEN, 0, given);
        if (once == null || once.isTooMuch()) {
            return once == null ? MADE : FULL;
        }
        int ahead = changer.focusCount();
        Thing twice = changer.change(once, paths[path], GIVEN, 0, given);
        if (twice == null || twice.isTooMuch()) {
            return twice == null ? MADE : FULL;
        }
        foci.find(once, paths[path]);
        int laws = foci.size() == ahead ? 1 : 0;
        laws += foci.areAllAlike(given) ? 2 : 0;
        laws += Thing.areAlike(once, twice) ? 4 : 0;
        return laws;
    }

    public int image() {
        for (int i = 0; i < SHELVES; i++) {
            keptThings[i] = held(i);
        }
        for (int i = 0; i < PATHS; i++) {
            keptPaths[i] = paths[i];
        }
        isKept = true;
        return allNodes();
    }

    public int back() {
        if (!isKept) {
            return STATE;
        }
        for (int i = 0; i < SHELVES; i++) {
            shelves[i].restart(keptThings[i]);
        }
        for (int i = 0; i < PATHS; i++) {
            paths[i] = keptPaths[i];
        }
        return allNodes();
    }

    public int count(int what) {
        if (what < 0 || what > SHELVES + PATHS + 1) {
            return BAD;
        }
        if (what < SHELVES) {
            return shelves[what].oldCount();
        }
        if (what < SHELVES + PATHS) {
            return paths[what - SHELVES].size();
        }
        return what == SHELVES + PATHS ? tape.size() : made.sum();
    }

    private static boolean isShelf(int shelf) {
        return shelf >= 0 && shelf < SHELVES;
    }

    private static boolean isPath(int path) {
        return path >= 0 && path < PATHS;
    }

    private static boolean isHow(int how, int n) {
        if (how == TAG) {
            return n >= 0 && n <= 9;
        }
        return how == GIVEN ? isShelf(n) : how >= ADD && how <= TURN;
    }

    private Thing held(int shelf) {
        return shelves[shelf].held();
    }

    /** FOCUS k, or null if there is no such shelf, path or FOCUS. */
    private Thing focusAt(int shelf, int path, int k) {
        if (!isShelf(shelf) || !isPath(path)) {
            return null;
        }
        foci.find(held(shelf), paths[path]);
        return k >= 0 && k < foci.size() ? foci.at(k) : null;
    }

    private int allNodes() {
        int sum = 0;
        for (int i = 0; i < SHELVES; i++) {
            sum += held(i).nodes;
        }
        return sum;
    }

    private static Thing ofTwo(int kind, Thing first, Thing second) {
        Parts parts = new Parts();
        parts.add(0, first);
        parts.add(0, second);
        return parts.together(kind);
    }

    private static Thing withKey(Thing map, int letters, Thing part) {
        Parts parts = new Parts();
        for (int i = 0; i < map.size(); i++) {
            parts.add(map.letters(i), map.part(i));
        }
        parts.putByKey(letters, part);
        return parts.together(MAP);
    }

    private static int sharedNodes(Thing thing, Thing other, int depth) {
        if (thing == null || depth > DEEPEST) {
            return 0;
        }
        if (Thing.holds(other, thing, 0)) {
            return 1;
        }
        int sum = 0;
        for (int i = 0; i < thing.size(); i++) {
            sum += sharedNodes(thing.part(i), other, depth + 1);
        }
        return sum;
    }

    /** A THING: never changed once made, so that many others may hold THE SAME one. */
    private static final class Thing {
        final int kind;
        /** The worth of a NUMBER, the TAG of a TAGGED one, 0 of others. */
        final int word;
        final int nodes;
        final int height;
        /** KEYS as digits of 27, in order; none but in a MAP. */
        private final int[] keys;
        private final Thing[] parts;

        /** The arrays are kept, not copied: who hands them over leaves them alone from then on. */
        Thing(int kind, int word, int[] keys, Thing[] parts) {
            this.kind = kind;
            this.word = word;
            this.keys = keys;
            this.parts = parts;
            int sum = 1;
            int top = -1;
            for (Thing part : parts) {
                if (part != null) {
                    sum += part.nodes;
                    top = Math.max(top, part.height);
                }
            }
            this.nodes = sum;
            this.height = top + 1;
        }

        int size() {
            return parts.length;
        }

        Thing part(int i) {
            return i >= 0 && i < parts.length ? parts[i] : null;
        }

        Thing[] copyOfParts() {
            Thing[] copy = new Thing[parts.length];
            for (int i = 0; i < parts.length; i++) {
                copy[i] = parts[i];
            }
            return copy;
        }

        /** KEY i as digits of 27, 0 where there is none: in this form KEYS are ORDERED as numbers are. */
        int letters(int i) {
            return i >= 0 && i < keys.length ? keys[i] : 0;
        }

        boolean isTooMuch() {
            return height > MOST_HEIGHT || nodes > MOST_NODES || parts.length > MOST_PARTS;
        }

        /** Whether both differ in nothing but in what is in them. */
        boolean isFramedLike(Thing other) {
            if (kind != other.kind || word != other.word || kind == NUMBER || size() != other.size()) {
                return false;
            }
            for (int i = 0; i < size(); i++) {
                if (letters(i) != other.letters(i)) {
                    return false;
                }
            }
            return true;
        }

        static boolean areAlike(Thing a, Thing b) {
            return compare(a, b, 0) == 0;
        }

        /** Below 0 if a is ahead of b as ORDERED, above 0 if b is, 0 if they are ALIKE. */
        private static int compare(Thing a, Thing b, int depth) {
            if (a == b || a == null || b == null || depth > DEEPEST) {
                return 0;
            }
            if (a.kind != b.kind || a.word != b.word) {
                return a.kind != b.kind ? Integer.compare(a.kind, b.kind) : Integer.compare(a.word, b.word);
            }
            int common = Math.min(a.size(), b.size());
            for (int i = 0; i < common; i++) {
                int way = Integer.compare(a.letters(i), b.letters(i));
                if (way == 0) {
                    way = compare(a.part(i), b.part(i), depth + 1);
                }
                if (way != 0) {
                    return way;
                }
            }
            return Integer.compare(a.size(), b.size());
        }

        /** Whether THE SAME THING as the sought one is a NODE of the outer one. */
        private static boolean holds(Thing outer, Thing sought, int depth) {
            if (outer == null || sought == null || depth > DEEPEST) {
                return false;
            }
            if (outer == sought) {
                return true;
            }
            // a NODE within has fewer NODES: most branches end here
            if (sought.nodes >= outer.nodes) {
                return false;
            }
            for (int i = 0; i < outer.size(); i++) {
                if (holds(outer.part(i), sought, depth + 1)) {
                    return true;
                }
            }
            return false;
        }
    }

    /** What is in a THING as it is gathered; it takes one more than may be, so that a THING can be told too large. */
    private static final class Parts {
        private final int[] keys = new int[MOST_PARTS + 1];
        private final Thing[] parts = new Thing[MOST_PARTS + 1];
        private int size = 0;

        void add(int letters, Thing part) {
            insert(size, letters, part);
        }

        boolean hasKey(int letters) {
            int place = placeOf(letters);
            return place < size && keys[place] == letters;
        }

        /** Puts a part where its KEY belongs, in place of the one that the KEY had, if any. */
        void putByKey(int letters, Thing part) {
            int place = placeOf(letters);
            if (place < size && keys[place] == letters) {
                parts[place] = part;
            } else {
                insert(place, letters, part);
            }
        }

        Thing together(int kind) {
            Thing[] exact = new Thing[size];
            for (int i = 0; i < size; i++) {
                exact[i] = parts[i];
            }
            int[] letters = new int[kind == MAP ? size : 0];
            for (int i = 0; i < letters.length; i++) {
                letters[i] = keys[i];
            }
            return new Thing(kind, 0, letters, exact);
        }

        /** The first place whose KEY isn't ahead of this one; never more than size, so within the row. */
        private int placeOf(int letters) {
            int place = 0;
            while (place < size && keys[place] < letters) {
                place++;
            }
            return place;
        }

        private void insert(int place, int letters, Thing part) {
            if (size > MOST_PARTS || place < 0 || place > size) {
                return;
            }
            for (int i = size; i > place; i--) {
                keys[i] = keys[i - 1];
                parts[i] = parts[i - 1];
            }
            keys[place] = letters;
            parts[place] = part;
            size++;
        }
    }

    /** THE TAPE: its bytes, how far they are read, and the first FAULT of the reading. */
    private static final class Tape {
        private static final int END = -1;
        private final int[] bytes = new int[MOST_BYTES];
        private int size = 0;
        private int at = 0;
        private int fault = -1;

        int size() {
            return size;
        }

        void add(int b) {
            if (size < MOST_BYTES) {
                bytes[size] = b;
                size++;
            }
        }

        void clear() {
            size = 0;
        }

        void rewind() {
            at = 0;
            fault = -1;
        }

        int at() {
            return at;
        }

        int fault() {
            return fault;
        }

        boolean isFaulty() {
            return fault >= 0;
        }

        boolean isAtEnd() {
            return at >= size;
        }

        /** Only the first FAULT counts: reading may go on for a while behind it. */
        void fail(int place) {
            if (fault < 0) {
                fault = place;
            }
        }

        /** The byte that stands next, END if none does. */
        int next() {
            return at >= 0 && at < size && at < MOST_BYTES ? bytes[at] : END;
        }

        void step() {
            if (at < size) {
                at++;
            }
        }

        /** Steps over this byte if it stands next. */
        boolean takes(int b) {
            if (next() != b) {
                return false;
            }
            step();
            return true;
        }

        void needs(int b) {
            if (!takes(b)) {
                fail(at);
            }
        }

        /** One digit or more, so many at most: one too many is left for what is read next to fail at. */
        int digits(int most) {
            int value = 0;
            int read = 0;
            while (read < most && next() >= '0' && next() <= '9') {
                value = value * 10 + next() - '0';
                step();
                read++;
            }
            if (read == 0) {
                fail(at);
            }
            return value;
        }

        int signedNumber() {
            boolean isBelow = takes('-');
            int worth = digits(6);
            return isBelow ? -worth : worth;
        }

        /** The letters of a KEY as digits of 27; a 4th one is left for what is read next to fail at. */
        int letters() {
            int value = 0;
            int read = 0;
            while (read < MOST_LETTERS && next() >= 'a' && next() <= 'z') {
                value = value * (LETTERS + 1) + next() - 'a' + 1;
                step();
                read++;
            }
            if (read == 0) {
                fail(at);
            }
            return value;
        }
    }

    /** Reads a THING from THE TAPE; null is answered behind a FAULT, which THE TAPE keeps. */
    private static final class ThingReader {
        private final Tape tape;

        ThingReader(Tape tape) {
            this.tape = tape;
        }

        Thing readWhole() {
            tape.rewind();
            Thing told = readOne(0);
            if (!tape.isAtEnd()) {
                tape.fail(tape.at());
            }
            return tape.isFaulty() ? null : told;
        }

        /** The depth is the number of THINGS around this one. */
        private Thing readOne(int depth) {
            if (depth > MOST_HEIGHT) {
                tape.fail(tape.at());
                return null;
            }
            switch (tape.next()) {
                case '(':
                    return readPair(depth);
                case '[':
                    return readMany(ROW, ']', depth);
                case '{':
                    return readMany(MAP, '}', depth);
                case '#':
                    return readTagged(depth);
                default:
                    int worth = tape.signedNumber();
                    return tape.isFaulty() ? null : new Thing(NUMBER, worth, new int[0], new Thing[0]);
            }
        }

        private Thing readPair(int depth) {
            tape.step();
            Thing first = readOne(depth + 1);
            if (first == null) {
                return null;
            }
            tape.needs(',');
            Thing second = tape.isFaulty() ? null : readOne(depth + 1);
            if (second == null) {
                return null;
            }
            tape.needs(')');
            return tape.isFaulty() ? null : ofTwo(PAIR, first, second);
        }

        private Thing readTagged(int depth) {
            tape.step();
            int tag = tape.digits(1);
            Thing inner = tape.isFaulty() ? null : readOne(depth + 1);
            if (inner == null) {
                return null;
            }
            Thing[] parts = {inner};
            return new Thing(TAGGED, tag, new int[0], parts);
        }

        /** A ROW or a MAP, which differ by its KEYS and the byte that closes it. */
        private Thing readMany(int kind, int close, int depth) {
            tape.step();
            Parts parts = new Parts();
            if (tape.takes(close)) {
                return parts.together(kind);
            }
            for (int i = 1; i <= MOST_PARTS; i++) {
                int letters = kind == MAP ? readNewKey(parts) : 0;
                Thing part = tape.isFaulty() ? null : readOne(depth + 1);
                if (part == null) {
                    return null;
                }
                if (kind == MAP) {
                    parts.putByKey(letters, part);
                } else {
                    parts.add(0, part);
                }
                if (tape.takes(close)) {
                    return parts.together(kind);
                }
                // behind the last that may be, no , can stand
                if (i == MOST_PARTS || !tape.takes(',')) {
                    tape.fail(tape.at());
                    return null;
                }
            }
            return null;
        }

        private int readNewKey(Parts parts) {
            int start = tape.at();
            int letters = tape.letters();
            // before the : is looked for, since a second of one KEY is the FAULT whatever comes behind it
            if (parts.hasKey(letters)) {
                tape.fail(start);
            }
            tape.needs(':');
            return letters;
        }
    }

    /** Reads a PATH from THE TAPE; null is answered behind a FAULT, which THE TAPE keeps. */
    private static final class PathReader {
        private final Tape tape;
        private final int[] signs = new int[MOST_STEPS];
        private final int[] words = new int[MOST_STEPS];

        PathReader(Tape tape) {
            this.tape = tape;
        }

        Path readWhole() {
            tape.rewind();
            int size = 0;
            while (size < MOST_STEPS && !tape.isAtEnd() && !tape.isFaulty()) {
                signs[size] = tape.next();
                words[size] = readStep();
                size++;
            }
            if (!tape.isAtEnd()) {
                tape.fail(tape.at());
            }
            return tape.isFaulty() ? null : new Path(firstOf(signs, size), firstOf(words, size));
        }

        /** Reads one STEP and answers the number or KEY in it. */
        private int readStep() {
            int sign = tape.next();
            int start = tape.at();
            tape.step();
            switch (sign) {
                case '*':
                case '~':
                case '%':
                    return 0;
                case '.':
                    return readSide();
                case '/':
                    return tape.digits(2);
                case '#':
                    return tape.digits(1);
                case '$':
                    return closed(tape.letters(), '.');
                case '<':
                    return closed(tape.digits(2), '>');
                case '=':
                    return closed(tape.signedNumber(), ';');
                default:
                    tape.fail(start);
                    return 0;
            }
        }

        private int readSide() {
            if (tape.takes('1')) {
                return 1;
            }
            tape.needs('0');
            return 0;
        }

        private int closed(int word, int close) {
            tape.needs(close);
            return word;
        }

        private static int[] firstOf(int[] row, int size) {
            int[] first = new int[size];
            for (int i = 0; i < size && i < row.length; i++) {
                first[i] = row[i];
            }
            return first;
        }
    }

    /**
     * A PATH: of each STEP its sign, as it stands on THE TAPE, and the number or KEY in it. Never changed once
     * made. A STEP either keeps a THING itself or enters parts of it, so that one walk serves looks and changes.
     */
    private static final class Path {
        private final int[] signs;
        private final int[] words;

        Path(int[] signs, int[] words) {
            this.signs = signs;
            this.words = words;
        }

        int size() {
            return Math.min(signs.length, words.length);
        }

        Path goingOnBy(Path other) {
            int sum = size() + other.size();
            int[] allSigns = new int[sum];
            int[] allWords = new int[sum];
            for (int i = 0; i < sum; i++) {
                allSigns[i] = i < size() ? sign(i) : other.sign(i - size());
                allWords[i] = i < size() ? word(i) : other.word(i - size());
            }
            return new Path(allSigns, allWords);
        }

        /** Whether the THING itself is the FOCUS of this STEP. */
        boolean keeps(int step, Thing thing) {
            switch (sign(step)) {
                case '<':
                    return thing.nodes <= word(step);
                case '=':
                    return thing.kind == NUMBER && thing.word == word(step);
                case '%':
                    return thing.kind == NUMBER;
                default:
                    return false;
            }
        }

        /** Whether FOCI of this STEP are to be looked for in part i of the THING, or are that. */
        boolean enters(int step, Thing thing, int i) {
            switch (sign(step)) {
                case '.':
                    return thing.kind == PAIR && i == word(step);
                case '/':
                    return thing.kind == ROW && i == word(step);
                case '$':
                    return thing.kind == MAP && thing.letters(i) == word(step);
                case '#':
                    return thing.kind == TAGGED && thing.word == word(step);
                case '*':
                    return thing.kind == ROW || thing.kind == MAP;
                case '~':
                case '%':
                    return true;
                default:
                    return false;
            }
        }

        /** The STEP that goes on within an entered part: % goes on itself, as far as NUMBERS. */
        int stepWithin(int step) {
            return sign(step) == '%' ? step : step + 1;
        }

        private int sign(int step) {
            return step >= 0 && step < signs.length ? signs[step] : 0;
        }

        private int word(int step) {
            return step >= 0 && step < words.length ? words[step] : 0;
        }
    }

    /** A SHELF: the THING that it holds, and the last ones that it held before. */
    private static final class Shelf {
        private final Thing[] old = new Thing[MOST_OLD];
        private int olds = 0;
        private Thing held;

        Shelf(Thing first) {
            held = first;
        }

        Thing held() {
            return held;
        }

        int oldCount() {
            return olds;
        }

        void become(Thing thing) {
            if (olds == MOST_OLD) {
                for (int i = 1; i < MOST_OLD; i++) {
                    old[i - 1] = old[i];
                }
                olds--;
            }
            old[olds] = held;
            olds++;
            held = thing;
        }

        void becomeLastOld() {
            if (olds > 0) {
                olds--;
                held = old[olds];
            }
        }

        /** Holds a THING with nothing remembered. */
        void restart(Thing thing) {
            held = thing;
            olds = 0;
        }
    }

    /** How many THINGS all calls together have made. */
    private static final class Tally {
        private int sum = 0;

        int sum() {
            return sum;
        }

        boolean hasRoomFor(int more) {
            return sum + more <= MOST_MADE;
        }

        /** Counts so many, or none if they would be too many. */
        boolean adds(int more) {
            if (sum + more > MOST_MADE) {
                return false;
            }
            sum += more;
            return true;
        }
    }

    /** OVER: a THING with its FOCI changed, all that isn't around a changed one THE SAME THING still. */
    private static final class Changer {
        private final Tally made;
        private Path path;
        private int how;
        private int n;
        private Thing given;
        private int focusCount;
        /** Set as the Tally is full: nothing is made from then on. */
        private boolean isSpent;

        Changer(Tally made) {
            this.made = made;
        }

        /** What comes of a THING, null if more would be made than may be. */
        Thing change(Thing from, Path path, int how, int n, Thing given) {
            this.path = path;
            this.how = how;
            this.n = n;
            this.given = given;
            focusCount = 0;
            isSpent = false;
            Thing came = changeWithin(from, 0, 0);
            return isSpent ? null : came;
        }

        int focusCount() {
            return focusCount;
        }

        private Thing changeWithin(Thing thing, int step, int depth) {
            if (thing == null || isSpent || depth > DEEPEST) {
                return thing;
            }
            if (step >= path.size()) {
                return changeFocus(thing);
            }
            if (path.keeps(step, thing)) {
                return changeWithin(thing, step + 1, depth + 1);
            }
            Thing[] parts = null;
            for (int i = 0; i < thing.size(); i++) {
                if (path.enters(step, thing, i)) {
                    Thing part = thing.part(i);
                    Thing came = changeWithin(part, path.stepWithin(step), depth + 1);
                    if (came != part) {
                        parts = parts == null ? thing.copyOfParts() : parts;
                        parts[i] = came;
                    }
                }
            }
            return parts == null ? thing : makeAround(thing, parts);
        }

        private Thing changeFocus(Thing focus) {
            int number = focusCount;
            focusCount++;
            switch (how) {
                case ADD:
                    return makeNumberOf(focus, focus.word + n);
                case TIMES:
                    return makeNumberOf(focus, focus.word * n);
                case FROM:
                    return makeNumberOf(focus, n - focus.word);
                case COUNT_UP:
                    return makeNumberOf(focus, focus.word + number);
                case PAIR_UP:
                    Thing[] two = {focus, make(NUMBER, n, new Thing[0], focus)};
                    return make(PAIR, 0, two, focus);
                case TAG:
                    return make(TAGGED, n, justOne(focus), focus);
                case ALONE:
                    return make(ROW, 0, justOne(focus), focus);
                case GIVEN:
                    return given;
                default:
                    return changeOrder(focus);
            }
        }

        /** The ways that put what is in a FOCUS in another order. */
        private Thing changeOrder(Thing focus) {
            if (how == SWAP && focus.kind == PAIR || how == REVERSE && focus.kind == ROW) {
                return makeAround(focus, reversed(focus));
            }
            if (how == SORT && focus.kind == ROW) {
                return makeAround(focus, sorted(focus));
            }
            if (how == TURN && focus.kind == MAP) {
                return makeAround(focus, turned(focus));
            }
            return focus;
        }

        private Thing makeNumberOf(Thing focus, int worth) {
            return focus.kind == NUMBER ? make(NUMBER, worth, new Thing[0], focus) : focus;
        }

        /** A new THING without KEYS; instead of it the other one, as soon as nothing more may be made. */
        private Thing make(int kind, int word, Thing[] parts, Thing instead) {
            return mayMake() ? new Thing(kind, word, new int[0], parts) : instead;
        }

        private Thing makeAround(Thing thing, Thing[] parts) {
            return mayMake() ? new Thing(thing.kind, thing.word, thing.keys, parts) : thing;
        }

        private boolean mayMake() {
            if (!isSpent && !made.adds(1)) {
                isSpent = true;
            }
            return !isSpent;
        }

        private static Thing[] justOne(Thing inner) {
            Thing[] parts = {inner};
            return parts;
        }

        private static Thing[] reversed(Thing thing) {
            int size = thing.size();
            Thing[] parts = new Thing[size];
            for (int i = 0; i < size; i++) {
                parts[i] = thing.part(size - 1 - i);
            }
            return parts;
        }

        private static Thing[] turned(Thing thing) {
            int size = thing.size();
            Thing[] parts = new Thing[size];
            for (int i = 0; i < size; i++) {
                parts[i] = thing.part(i == 0 ? size - 1 : i - 1);
            }
            return parts;
        }

        private static Thing[] sorted(Thing thing) {
            Thing[] parts = thing.copyOfParts();
            for (int i = 1; i < parts.length; i++) {
                Thing moved = parts[i];
                int place = i;
                while (place > 0 && Thing.compare(moved, parts[place - 1], 0) < 0) {
                    parts[place] = parts[place - 1];
                    place--;
                }
                parts[place] = moved;
            }
            return parts;
        }
    }

    /** The FOCI of a PATH in a THING, as last found, with their FOLDS and their SORTED places. */
    private static final class Foci {
        // FOCI of one PATH never lie within one another: they are no more than NODES may be
        private final Thing[] found = new Thing[MOST_NODES];
        private final int[] places = new int[MOST_NODES];
        private int size = 0;

        void find(Thing thing, Path path) {
            size = 0;
            findWithin(thing, path, 0, 0);
        }

        private void findWithin(Thing thing, Path path, int step, int depth) {
            if (thing == null || depth > DEEPEST) {
                return;
            }
            if (step >= path.size()) {
                add(thing);
                return;
            }
            if (path.keeps(step, thing)) {
                findWithin(thing, path, step + 1, depth + 1);
                return;
            }
            for (int i = 0; i < thing.size(); i++) {
                if (path.enters(step, thing, i)) {
                    findWithin(thing.part(i), path, path.stepWithin(step), depth + 1);
                }
            }
        }

        private void add(Thing focus) {
            if (size < MOST_NODES) {
                found[size] = focus;
                size++;
            }
        }

        int size() {
            return size;
        }

        boolean isEmpty() {
            return size == 0;
        }

        Thing at(int k) {
            return k >= 0 && k < size ? found[k] : null;
        }

        long sum() {
            long sum = 0;
            for (int i = 0; i < size; i++) {
                sum += numbersWithin(found[i], 0);
            }
            return sum;
        }

        private static long numbersWithin(Thing thing, int depth) {
            if (thing == null || depth > DEEPEST) {
                return 0;
            }
            long sum = thing.kind == NUMBER ? thing.word : 0;
            for (int i = 0; i < thing.size(); i++) {
                sum += numbersWithin(thing.part(i), depth + 1);
            }
            return sum;
        }

        int greatest() {
            int place = 0;
            for (int i = 1; i < size; i++) {
                place = Thing.compare(found[i], found[place], 0) > 0 ? i : place;
            }
            return place;
        }

        int least() {
            int place = 0;
            for (int i = 1; i < size; i++) {
                place = Thing.compare(found[i], found[place], 0) < 0 ? i : place;
            }
            return place;
        }

        int unlike() {
            int sum = 0;
            for (int i = 0; i < size; i++) {
                sum += isLikeOneAhead(i) ? 0 : 1;
            }
            return sum;
        }

        private boolean isLikeOneAhead(int place) {
            for (int i = 0; i < place; i++) {
                if (Thing.areAlike(found[i], found[place])) {
                    return true;
                }
            }
            return false;
        }

        int height() {
            int top = 0;
            for (int i = 0; i < size; i++) {
                top = Math.max(top, found[i].height);
            }
            return top;
        }

        int nodes() {
            int sum = 0;
            for (int i = 0; i < size; i++) {
                sum += found[i].nodes;
            }
            return sum;
        }

        boolean areAllAlike(Thing thing) {
            for (int i = 0; i < size; i++) {
                if (!Thing.areAlike(found[i], thing)) {
                    return false;
                }
            }
            return true;
        }

        /** The place of BEST n by this ORDER; like ones keep their order, as each moves ahead of worse ones only. */
        int sorted(int order, int n) {
            for (int i = 0; i < size; i++) {
                int place = i;
                while (place > 0 && isAhead(found[i], found[places[place - 1]], order)) {
                    places[place] = places[place - 1];
                    place--;
                }
                places[place] = i;
            }
            return n >= 0 && n < size ? places[n] : NONE;
        }

        private static boolean isAhead(Thing a, Thing b, int order) {
            if (order == 2 && a.height != b.height) {
                return a.height > b.height;
            }
            if (order != 0 && a.nodes != b.nodes) {
                return a.nodes < b.nodes;
            }
            return order != 2 && Thing.compare(a, b, 0) < 0;
        }
    }

    /** The DIFFERENCE of two THINGS, as last found: the places of the first one's NODES that become others. */
    private static final class Difference {
        private final int[] places = new int[MOST_NODES];
        private int size = 0;

        void find(Thing p, Thing q) {
            size = 0;
            findWithin(p, q, 0, 0);
        }

        private void findWithin(Thing p, Thing q, int place, int depth) {
            if (p == null || q == null || depth > DEEPEST || Thing.areAlike(p, q)) {
                return;
            }
            if (!p.isFramedLike(q)) {
                add(place);
                return;
            }
            int within = place + 1;
            for (int i = 0; i < p.size(); i++) {
                Thing part = p.part(i);
                findWithin(part, q.part(i), within, depth + 1);
                within += part == null ? 0 : part.nodes;
            }
        }

        private void add(int place) {
            if (size < MOST_NODES) {
                places[size] = place;
                size++;
            }
        }

        int size() {
            return size;
        }

        int place(int k) {
            return k >= 0 && k < size ? places[k] : NONE;
        }
    }
}
