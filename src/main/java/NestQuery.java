import java.util.NoSuchElementException;

/**
 * Nested data (numbers, words, lists, maps) told as a text, paths through them compiled from texts,
 * acts at all answers of a path, patches between two trees, and questions about all of these.
 *
 * <p>All rows are made once, in constructors, and used again by every call: a run of calls makes
 * next to no objects.
 */
public final class NestQuery {
    public static final int NONE = -1;

    private static final int TEXT_IS_FAULTY = -2;
    private static final int TAPE_ROOM = 400;
    private static final int MOST_THINGS = 60;
    private static final int MOST_DEPTH = 7;
    private static final int MOST_NUMBER = 999;
    private static final int NO_NUMBER = -1000;
    private static final int MOST_LETTERS = 6;
    private static final int MOST_DIGITS = 3;
    private static final int MOST_PATHS = 4;
    private static final int MOST_STEPS = 8;
    private static final int MOST_TESTS = 12;
    private static final int MOST_NESTED_ATOMS = 5;
    private static final int MOST_ACTS = 40;
    private static final int MOST_NOTED = 8;
    private static final int MOST_YEARS = 20;

    // While an act is built, a tree may hold the old things and all new ones at once.
    private static final int WORK_ROOM = 128;
    // No tree that is compared or told goes deeper; beyond it recursion is refused.
    private static final int MOST_LEVELS = 16;

    private static final int NUMBER = 0;
    private static final int WORD = 1;
    private static final int LIST = 2;
    private static final int MAP = 3;

    private static final int COMES = 1;
    private static final int GOES = 2;
    private static final int BECOMES = 3;

    private static final int BY_KEY = 0;
    private static final int BY_EACH = 1;
    private static final int BY_ALL_WITHIN = 2;
    private static final int BY_PLACE = 3;
    private static final int BY_STRETCH = 4;
    private static final int BY_FILTER = 5;

    // Tokens that are no single sign; signs stand for themselves (0 to 255).
    private static final int WORD_TOKEN = 256;
    private static final int DIGITS_TOKEN = 257;
    private static final int DOTS_TOKEN = 258;
    private static final int END_TOKEN = 259;
    private static final int BROKEN_TOKEN = 260;

    private static final int CANT_STAND = 1;
    private static final int TOO_MUCH = 2;
    private static final int KEY_TWICE = 3;

    private static final int REFUSED_TEXTS = 0;
    private static final int REFUSED_ACTS = 1;
    private static final int REFUSED_NOTES = 2;

    private final int[] tape = new int[TAPE_ROOM];
    private int tapeCount;
    private int faultPlace = NONE;
    private final Path[] paths = new Path[MOST_PATHS];
    private Path sparePath = new Path();
    private final Tokens tokens = new Tokens();
    private final DataReader dataReader = new DataReader(tokens);
    private final PathReader pathReader = new PathReader(tokens);
    private final Tree data = new Tree(MOST_THINGS);
    private final State now = new State();
    private final State imaged = new State();
    private boolean imageThere;
    private final Acts acts = new Acts(now);
    private final Patch kept = new Patch();
    private final Patch sinceImage = new Patch();
    private final TextOut text = new TextOut();
    private final long[] answers = new long[MOST_PATHS];
    private final Draws draws = new Draws();

    public NestQuery() {
        now.tree.addThing(MAP, 0, 0, 0);
    }

    public int feed(int a, int b, int c, int d, int e) {
        if (tapeCount + 20 > TAPE_ROOM) {
            return NONE;
        }
        layBytes(a);
        layBytes(b);
        layBytes(c);
        layBytes(d);
        layBytes(e);
        return tapeCount;
    }

    public int tree(int n) throws IllegalArgumentException {
        if (!tapeHas(n)) {
            throw new IllegalArgumentException("the tape has not so many bytes");
        }
        int fault = readData(n);
        if (fault == 0) {
            now.tree.become(data);
            now.actCount = 0;
            now.notedCount = 0;
            imageThere = false;
        }
        return fault;
    }

    public int path(int slot, int n) throws NoSuchElementException, IllegalArgumentException {
        if (slot < 0 || slot >= MOST_PATHS) {
            throw new NoSuchElementException("no such path may be");
        }
        if (!tapeHas(n)) {
            throw new IllegalArgumentException("the tape has not so many bytes");
        }
        int fault = pathReader.read(tape, n, sparePath);
        textWasRead(fault);
        if (fault == 0) {
            Path old = paths[slot];
            paths[slot] = sparePath;
            sparePath = old == null ? new Path() : old;
        }
        return fault;
    }

    public int fault() {
        return faultPlace;
    }

    public int count(int what) throws NoSuchElementException {
        switch (what) {
            case 0: return now.tree.size;
            case 1: case 2: case 3: case 4: return now.tree.countKind(what - 1);
            case 5: return now.tree.deepest();
            case 6: return pathsThere();
            case 7: return now.tree.unlike();
            case 8: return kept.rowCount;
            case 9: return imageThere ? sinceImage.compare(imaged.tree, now.tree) : NONE;
            case 10: return now.actCount;
            case 11: return now.notedCount;
            case 12: return tapeCount;
            case 13: case 14: case 15: return now.refusedOf(what - 13);
            case 16: return now.tree.sum();
            case 17: return pathsThatFit();
            default: throw new NoSuchElementException("no such count");
        }
    }

    public int thing(int thing, int what) throws NoSuchElementException {
        mustBeThere(thing);
        switch (what) {
            case 0: return now.tree.kindAt(thing);
            case 1: return now.tree.parentOf(thing);
            case 2: return now.tree.placeOf(thing);
            case 3: return now.tree.depthAt(thing);
            case 4: return now.tree.childCount(thing);
            case 5: return now.tree.end(thing);
            case 6: return now.tree.kindAt(thing) == NUMBER ? now.tree.valueAt(thing) : NO_NUMBER;
            case 7: return lettersOf(now.tree.keyAt(thing));
            case 8: return now.tree.twinsOf(thing);
            case 9: return pathsAnswering(thing);
            default: throw new NoSuchElementException("no such question about a thing");
        }
    }

    public int within(int thing, int i) throws NoSuchElementException {
        mustBeThere(thing);
        int child = now.tree.childAt(thing, i);
        if (child == NONE) {
            throw new NoSuchElementException("no such thing at once within");
        }
        return child;
    }

    public int told(int thing, boolean own, int i) throws NoSuchElementException {
        mustBeThere(thing);
        text.clear();
        if (own) {
            text.writePath(now.tree, thing);
        } else {
            text.writeThing(now.tree, thing, 0);
        }
        return ofText(i);
    }

    public int alike(int thing, int other) throws NoSuchElementException {
        mustBeThere(thing);
        mustBeThere(other);
        return now.tree.like(thing, now.tree, other, 0) ? 1 : 0;
    }

    public int answer(int slot, int i) throws NoSuchElementException {
        Path path = pathAt(slot);
        if (path == null) {
            throw new NoSuchElementException("no such path is there");
        }
        long found = path.answersIn(now.tree, MOST_STEPS);
        if (i == NONE) {
            return Long.bitCount(found);
        }
        int thing = nthOf(found, i);
        if (thing == NONE) {
            throw new NoSuchElementException("no such answer");
        }
        return thing;
    }

    public int steps(int slot, int i) throws NoSuchElementException {
        Path path = pathAt(slot);
        if (path == null) {
            throw new NoSuchElementException("no such path is there");
        }
        if (i == NONE) {
            return path.stepCount;
        }
        if (i < 0 || i >= path.stepCount) {
            throw new NoSuchElementException("no such step");
        }
        return Long.bitCount(path.answersIn(now.tree, i + 1));
    }

    public int row(int i, int what) throws NoSuchElementException {
        if (i < 0 || i >= kept.rowCount) {
            throw new NoSuchElementException("no such row");
        }
        switch (what) {
            case 0: return kept.kindOf(i);
            case 1: return kept.stepsOf(i);
            case 2: return kept.thingsBefore(i);
            case 3: return kept.thingsAfter(i);
            default: throw new NoSuchElementException("no such question about a row");
        }
    }

    public int rowText(int i, int k) throws NoSuchElementException {
        if (i < 0 || i >= kept.rowCount) {
            throw new NoSuchElementException("no such row");
        }
        kept.tellRow(i, text);
        return ofText(k);
    }

    public int put(int slot, int n) throws IllegalArgumentException {
        if (!tapeHas(n)) {
            throw new IllegalArgumentException("the tape has not so many bytes");
        }
        Path path = pathAt(slot);
        if (path == null) {
            return refusedUnread();
        }
        if (readData(n) != 0) {
            return TEXT_IS_FAULTY;
        }
        return actDone(acts.putAll(path.answersIn(now.tree, MOST_STEPS), data));
    }

    public int append(int slot, int n) throws IllegalArgumentException {
        if (!tapeHas(n)) {
            throw new IllegalArgumentException("the tape has not so many bytes");
        }
        Path path = pathAt(slot);
        if (path == null) {
            return refusedUnread();
        }
        if (readData(n) != 0) {
            return TEXT_IS_FAULTY;
        }
        return actDone(acts.appendAll(path.answersIn(now.tree, MOST_STEPS), data));
    }

    public int key(int slot, int key, int n) throws IllegalArgumentException {
        if (!tapeHas(n)) {
            throw new IllegalArgumentException("the tape has not so many bytes");
        }
        Path path = pathAt(slot);
        if (path == null || !isWord(key)) {
            return refusedUnread();
        }
        if (readData(n) != 0) {
            return TEXT_IS_FAULTY;
        }
        return actDone(acts.keyAll(path.answersIn(now.tree, MOST_STEPS), key, data));
    }

    public int add(int slot, int v) {
        return actDone(adding(slot, v));
    }

    public int change(int slot, int what) {
        return actDone(changing(slot, what));
    }

    public int move(int thing, int to, int key) {
        return actDone(acts.moveThing(thing, to, key));
    }

    public int keep() {
        return imageThere ? kept.compare(imaged.tree, now.tree) : NONE;
    }

    public int apply(boolean turned) {
        return actDone(acts.layOn(kept, turned));
    }

    public int undo() {
        return now.stepBack();
    }

    public int note(int thing, boolean is) {
        if (!now.tree.has(thing) || !now.notes(thing, is)) {
            now.refuse(REFUSED_NOTES);
            return NONE;
        }
        return now.notedCount;
    }

    public int look() {
        int fits = pathsThatFit();
        int all = Integer.bitCount(fits);
        int best = NONE;
        int most = 0;
        for (int thing = 0; thing < now.tree.size; thing++) {
            int some = foundAmong(thing, fits);
            int lesser = Math.min(some, all - some);
            if (lesser > most) {
                most = lesser;
                best = thing;
            }
        }
        return best;
    }

    public void forget() {
        now.notedCount = 0;
    }

    public int years(int seed, int n, int what) throws NoSuchElementException, IllegalArgumentException {
        if (what < 0 || what > 2) {
            throw new NoSuchElementException("no such question about years");
        }
        if (n < 0 || n > MOST_YEARS) {
            throw new IllegalArgumentException("no such number of years");
        }
        draws.begin(seed);
        int done = 0;
        for (int year = 0; year < n; year++) {
            if (oneYear() != NONE) {
                done++;
            }
        }
        if (what == 2) {
            return done;
        }
        return what == 0 ? now.tree.size : now.tree.sum();
    }

    public void image() {
        imaged.takeAll(now);
        imageThere = true;
    }

    public boolean restore() {
        if (imageThere) {
            now.takeAll(imaged);
        }
        return imageThere;
    }

    private void layBytes(int four) {
        for (int shift = 24; shift >= 0; shift -= 8) {
            if (tapeCount >= 0 && tapeCount < TAPE_ROOM) {
                tape[tapeCount] = four >>> shift & 255;
                tapeCount++;
            }
        }
    }

    private boolean tapeHas(int n) {
        return n >= 0 && n <= tapeCount;
    }

    private int readData(int n) {
        int fault = dataReader.read(tape, n, data);
        textWasRead(fault);
        return fault;
    }

    private void textWasRead(int fault) {
        tapeCount = 0;
        faultPlace = tokens.faultPlace;
        if (fault != 0) {
            now.refuse(REFUSED_TEXTS);
        }
    }

    // The tape is empty then also where its text was not read.
    private int refusedUnread() {
        tapeCount = 0;
        now.refuse(REFUSED_ACTS);
        return NONE;
    }

    private int actDone(int answer) {
        if (answer == NONE) {
            now.refuse(REFUSED_ACTS);
        }
        return answer;
    }

    private int adding(int slot, int v) {
        Path path = pathAt(slot);
        if (path == null || v < -MOST_NUMBER || v > MOST_NUMBER) {
            return NONE;
        }
        return acts.addAll(path.answersIn(now.tree, MOST_STEPS), v);
    }

    private int changing(int slot, int what) {
        Path path = pathAt(slot);
        if (path == null || what < 0 || what > 2) {
            return NONE;
        }
        long found = path.answersIn(now.tree, MOST_STEPS);
        return what == 2 ? acts.dropAll(found) : acts.rearrangeAll(found, what == 1);
    }

    // What can't be within a year is no refused call: STATUS stays.
    private int oneYear() {
        int act = draws.next(5);
        if (act == 0) {
            int slot = draws.next(MOST_PATHS);
            return adding(slot, draws.next(21) - 10);
        }
        if (act < 4) {
            return changing(draws.next(MOST_PATHS), act - 1);
        }
        int thing = draws.next(now.tree.size);
        return acts.moveThing(thing, draws.next(now.tree.size), 0);
    }

    private Path pathAt(int slot) {
        return slot < 0 || slot >= MOST_PATHS ? null : paths[slot];
    }

    private int pathsThere() {
        int there = 0;
        for (int slot = 0; slot < MOST_PATHS; slot++) {
            if (paths[slot] != null) {
                there |= 1 << slot;
            }
        }
        return there;
    }

    private void findAnswers() {
        for (int slot = 0; slot < MOST_PATHS; slot++) {
            Path path = paths[slot];
            answers[slot] = path == null ? 0L : path.answersIn(now.tree, MOST_STEPS);
        }
    }

    /** By how many of some paths (bits) a thing was among the answers when these were last found. */
    private int foundAmong(int thing, int some) {
        int found = 0;
        for (int slot = 0; slot < MOST_PATHS; slot++) {
            if ((some >>> slot & 1) != 0 && isIn(answers[slot], thing)) {
                found++;
            }
        }
        return found;
    }

    private int pathsAnswering(int thing) {
        findAnswers();
        return foundAmong(thing, pathsThere());
    }

    private int pathsThatFit() {
        findAnswers();
        int fits = 0;
        for (int slot = 0; slot < MOST_PATHS; slot++) {
            if (paths[slot] != null && now.notedFits(answers[slot])) {
                fits |= 1 << slot;
            }
        }
        return fits;
    }

    private void mustBeThere(int thing) {
        if (!now.tree.has(thing)) {
            throw new NoSuchElementException("no such thing");
        }
    }

    private int ofText(int i) {
        if (i == NONE) {
            return text.length;
        }
        if (i < 0 || i >= text.length) {
            throw new NoSuchElementException("no such byte");
        }
        return text.byteAt(i);
    }

    private static long bit(int thing) {
        return thing < 0 || thing >= MOST_THINGS ? 0L : 1L << thing;
    }

    private static boolean isIn(long things, int thing) {
        return (things & bit(thing)) != 0L;
    }

    private static int nthOf(long things, int n) {
        int seen = 0;
        for (int thing = 0; thing < MOST_THINGS; thing++) {
            if (isIn(things, thing)) {
                if (seen == n) {
                    return thing;
                }
                seen++;
            }
        }
        return NONE;
    }

    private static int lettersOf(int word) {
        int letters = 0;
        int rest = word;
        for (int k = 0; k < MOST_LETTERS && rest > 0; k++) {
            rest >>>= 5;
            letters++;
        }
        return letters;
    }

    private static boolean isWord(int word) {
        if (word < 1 || word >= 1 << 5 * MOST_LETTERS) {
            return false;
        }
        int rest = word;
        for (int k = 0; k < MOST_LETTERS && rest > 0; k++) {
            int letter = rest & 31;
            if (letter < 1 || letter > 26) {
                return false;
            }
            rest >>>= 5;
        }
        return true;
    }

    // Words that begin at the same bits are in the order of their numbers.
    private static int firstLetterHighest(int word) {
        int moved = word;
        for (int k = 0; k < MOST_LETTERS && moved < 1 << 5 * (MOST_LETTERS - 1); k++) {
            moved <<= 5;
        }
        return moved;
    }

    /** Draws by a seed, as the document tells them. */
    private static final class Draws {
        private int seed;

        void begin(int first) {
            seed = first;
        }

        int next(int n) {
            seed = seed * 1103515245 + 12345;
            return n < 1 ? 0 : (seed >>> 16 & 32767) % n;
        }
    }

    /**
     * Things in the order of their numbers: each ahead of those within it. The depths alone tell what
     * lies within what. Keys are numbers, 5 bits a letter, the last one lowest (0 is no key); the value
     * of a word has its first letter highest, so that words are less or greater as their values are.
     */
    private static final class Tree {
        private final int[] kinds;
        private final int[] values;
        private final int[] keys;
        private final int[] depths;
        private int size;

        Tree(int room) {
            int length = room < 1 ? 1 : room;
            kinds = new int[length];
            values = new int[length];
            keys = new int[length];
            depths = new int[length];
        }

        boolean has(int i) {
            return i >= 0 && i < size && i < kinds.length;
        }

        int kindAt(int i) {
            return i < 0 || i >= size ? NONE : kinds[i];
        }

        int valueAt(int i) {
            return i < 0 || i >= size ? 0 : values[i];
        }

        int keyAt(int i) {
            return i < 0 || i >= size ? 0 : keys[i];
        }

        int depthAt(int i) {
            return i < 0 || i >= size ? NONE : depths[i];
        }

        int end(int i) {
            if (i < 0 || i >= size) {
                return NONE;
            }
            int last = i;
            for (int k = i + 1; k < size && depths[k] > depths[i]; k++) {
                last = k;
            }
            return last;
        }

        int sizeOf(int i) {
            return i < 0 || i >= size ? 0 : end(i) - i + 1;
        }

        int ancestorAt(int i, int depth) {
            if (i < 0 || i >= size) {
                return NONE;
            }
            for (int k = i; k >= 0; k--) {
                if (depths[k] <= depth) {
                    return k;
                }
            }
            return NONE;
        }

        int parentOf(int i) {
            if (i < 0 || i >= size) {
                return NONE;
            }
            for (int k = i - 1; k >= 0; k--) {
                if (depths[k] < depths[i]) {
                    return k;
                }
            }
            return NONE;
        }

        int placeOf(int i) {
            if (i < 1 || i >= size) {
                return NONE;
            }
            int place = 0;
            for (int k = i - 1; k >= 0 && depths[k] >= depths[i]; k--) {
                if (depths[k] == depths[i]) {
                    place++;
                }
            }
            return place;
        }

        int childCount(int i) {
            if (i < 0 || i >= size) {
                return 0;
            }
            int children = 0;
            for (int k = i + 1; k < size && depths[k] > depths[i]; k++) {
                if (depths[k] == depths[i] + 1) {
                    children++;
                }
            }
            return children;
        }

        int childAt(int i, int place) {
            if (i < 0 || i >= size) {
                return NONE;
            }
            int seen = 0;
            for (int k = i + 1; k < size && depths[k] > depths[i]; k++) {
                if (depths[k] == depths[i] + 1) {
                    if (seen == place) {
                        return k;
                    }
                    seen++;
                }
            }
            return NONE;
        }

        int childBy(int i, int key) {
            if (i < 0 || i >= size || kinds[i] != MAP) {
                return NONE;
            }
            for (int k = i + 1; k < size && depths[k] > depths[i]; k++) {
                if (depths[k] == depths[i] + 1 && keys[k] == key) {
                    return k;
                }
            }
            return NONE;
        }

        int listed(int i, int place) {
            if (i < 0 || i >= size || kinds[i] != LIST) {
                return NONE;
            }
            int length = 0;
            for (int k = i + 1; place < 0 && k < size && depths[k] > depths[i]; k++) {
                if (depths[k] == depths[i] + 1) {
                    length++;
                }
            }
            int seen = 0;
            for (int k = i + 1; k < size && depths[k] > depths[i]; k++) {
                if (depths[k] == depths[i] + 1) {
                    if (seen == place + length) {
                        return k;
                    }
                    seen++;
                }
            }
            return NONE;
        }

        int deepest() {
            int most = 0;
            for (int k = 0; k < size; k++) {
                most = Math.max(most, depths[k]);
            }
            return most;
        }

        int countKind(int kind) {
            int found = 0;
            for (int k = 0; k < size; k++) {
                if (kinds[k] == kind) {
                    found++;
                }
            }
            return found;
        }

        int sum() {
            int together = 0;
            for (int k = 0; k < size; k++) {
                if (kinds[k] == NUMBER) {
                    together += values[k];
                }
            }
            return together;
        }

        boolean like(int i, Tree other, int j, int level) {
            int kind = kindAt(i);
            if (kind < 0 || kind != other.kindAt(j) || level > MOST_LEVELS) {
                return false;
            }
            if (kind == NUMBER || kind == WORD) {
                return valueAt(i) == other.valueAt(j);
            }
            if (sizeOf(i) != other.sizeOf(j)) {
                return false;
            }
            int children = childCount(i);
            if (children != other.childCount(j)) {
                return false;
            }
            int mine = i + 1;
            int theirs = j + 1;
            for (int k = 0; k < children; k++) {
                int partner = kind == MAP ? other.childBy(j, keyAt(mine)) : theirs;
                if (!like(mine, other, partner, level + 1)) {
                    return false;
                }
                mine = end(mine) + 1;
                theirs = other.end(theirs) + 1;
            }
            return true;
        }

        int twinsOf(int i) {
            int twins = 0;
            for (int k = 0; k < size; k++) {
                if (k != i && like(i, this, k, 0)) {
                    twins++;
                }
            }
            return twins;
        }

        // Being like goes over from one to the next, so the first of each kind of likeness counts.
        int unlike() {
            int found = 0;
            for (int k = 0; k < size; k++) {
                boolean first = true;
                for (int before = 0; before < k && first; before++) {
                    first = !like(before, this, k, 0);
                }
                if (first) {
                    found++;
                }
            }
            return found;
        }

        void clear() {
            size = 0;
        }

        int addThing(int kind, int value, int key, int depth) {
            if (size < 0 || size >= kinds.length) {
                return NONE;
            }
            kinds[size] = kind;
            values[size] = value;
            keys[size] = key;
            depths[size] = depth;
            size++;
            return size - 1;
        }

        void setValue(int i, int value) {
            if (i >= 0 && i < size) {
                values[i] = value;
            }
        }

        void become(Tree other) {
            int length = other.size;
            if (length >= 0 && length <= kinds.length && length <= other.kinds.length) {
                System.arraycopy(other.kinds, 0, kinds, 0, length);
                System.arraycopy(other.values, 0, values, 0, length);
                System.arraycopy(other.keys, 0, keys, 0, length);
                System.arraycopy(other.depths, 0, depths, 0, length);
                size = length;
            }
        }

        private void copyFrom(Tree other, int from, int at, int length) {
            if (length > 0 && from >= 0 && at >= 0
                    && from + length <= other.kinds.length && at + length <= kinds.length) {
                System.arraycopy(other.kinds, from, kinds, at, length);
                System.arraycopy(other.values, from, values, at, length);
                System.arraycopy(other.keys, from, keys, at, length);
                System.arraycopy(other.depths, from, depths, at, length);
            }
        }

        /** The other tree's thing and all within it come in at a number; false if there is no room. */
        boolean graft(int at, int depth, int key, Tree other, int from) {
            int length = other.end(from) - from + 1;
            if (!other.has(from) || length < 1 || at < 0 || at > size || size + length > kinds.length) {
                return false;
            }
            copyFrom(this, at, at + length, size - at);
            copyFrom(other, from, at, length);
            size += length;
            int deeper = depth - other.depthAt(from);
            for (int k = at; k < at + length && k < size; k++) {
                depths[k] += deeper;
            }
            keys[at] = key;
            return true;
        }

        void cut(int i) {
            int length = sizeOf(i);
            if (length > 0) {
                copyFrom(this, i + length, i, size - i - length);
                size -= length;
            }
        }

        boolean replace(int i, Tree other, int from) {
            int depth = depthAt(i);
            int key = keyAt(i);
            cut(i);
            return graft(i, depth, key, other, from);
        }

        boolean graftBehindAll(int i, int key, Tree other, int from) {
            return has(i) && graft(end(i) + 1, depthAt(i) + 1, key, other, from);
        }

        /** The other tree's things stand in place of as many from a number on. */
        void overlay(int at, Tree other) {
            if (at >= 0 && at + other.size <= size) {
                copyFrom(other, 0, at, other.size);
            }
        }
    }

    /** Tokens of a text, one at a time, and the first fault that a reader found. */
    private static final class Tokens {
        // As many tokens as bytes, and the end.
        private static final int ROOM = TAPE_ROOM + 1;

        private final int[] kinds = new int[ROOM];
        private final int[] starts = new int[ROOM];
        private final int[] values = new int[ROOM];
        private final int[] lengths = new int[ROOM];
        private int found;
        private int at;
        private int kind;
        private int fault;
        private int faultPlace = NONE;

        /** Finds all tokens, and stands at the first one. */
        void begin(int[] bytes, int n) {
            int length = Math.max(0, Math.min(n, bytes.length));
            found = 0;
            int next = 0;
            for (int k = 0; k <= length && next < length; k++) {
                int sign = bytes[next];
                if (sign == ' ' || sign == '\n') {
                    next++;
                } else if (isLetter(sign)) {
                    next = findWord(bytes, next, length);
                } else if (isDigit(sign)) {
                    next = findDigits(bytes, next, length);
                } else {
                    boolean dots = sign == '.' && next + 1 < length && bytes[next + 1] == '.';
                    addToken(dots ? DOTS_TOKEN : sign, next, 0, dots ? 2 : 1);
                    next += dots ? 2 : 1;
                }
            }
            addToken(END_TOKEN, length, 0, 0);
            fault = 0;
            faultPlace = NONE;
            at = 0;
            kind = kinds[0];
        }

        private void addToken(int what, int start, int value, int length) {
            if (found >= 0 && found < ROOM) {
                kinds[found] = what;
                starts[found] = start;
                values[found] = value;
                lengths[found] = length;
                found++;
            }
        }

        private int findWord(int[] bytes, int start, int length) {
            int word = 0;
            int next = Math.max(0, start);
            while (next < length && next < bytes.length && isLetter(bytes[next])) {
                word = word << 5 | bytes[next] - 'a' + 1;
                next++;
            }
            addToken(WORD_TOKEN, start, word, next - start);
            return next;
        }

        private int findDigits(int[] bytes, int start, int length) {
            int number = 0;
            int next = Math.max(0, start);
            while (next < length && next < bytes.length && isDigit(bytes[next])) {
                number = number * 10 + bytes[next] - '0';
                next++;
            }
            addToken(DIGITS_TOKEN, start, number, next - start);
            return next;
        }

        private static boolean isLetter(int sign) {
            return sign >= 'a' && sign <= 'z';
        }

        private static boolean isDigit(int sign) {
            return sign >= '0' && sign <= '9';
        }

        // A broken text stays broken: no reader takes this token, so all of them come to their end.
        void fail(int code) {
            if (fault == 0 && at >= 0 && at < ROOM) {
                fault = code;
                faultPlace = starts[at];
            }
            kind = BROKEN_TOKEN;
        }

        void step() {
            if (fault == 0 && at >= 0 && at + 1 < found && at + 1 < ROOM) {
                at++;
                kind = kinds[at];
            }
        }

        /** The number that stands for the token's letters or digits. */
        int value() {
            return at < 0 || at >= ROOM ? 0 : values[at];
        }

        boolean isLongerThan(int most) {
            return at >= 0 && at < ROOM && lengths[at] > most;
        }

        void expect(int wanted) {
            if (kind == wanted) {
                step();
            } else {
                fail(CANT_STAND);
            }
        }

        int takeLetters() {
            if (kind != WORD_TOKEN) {
                fail(CANT_STAND);
                return 0;
            }
            if (isLongerThan(MOST_LETTERS)) {
                fail(TOO_MUCH);
                return 0;
            }
            int word = value();
            step();
            return word;
        }

        int takeNumber() {
            boolean below = kind == '-';
            if (below) {
                step();
            }
            if (kind != DIGITS_TOKEN) {
                fail(CANT_STAND);
                return 0;
            }
            if (isLongerThan(MOST_DIGITS)) {
                fail(TOO_MUCH);
                return 0;
            }
            int number = below ? -value() : value();
            step();
            return number;
        }
    }

    /** Reads data into a tree. */
    private static final class DataReader {
        private final Tokens tokens;

        DataReader(Tokens tokens) {
            this.tokens = tokens;
        }

        /** 0, or the fault; behind a fault the tree is of no use. */
        int read(int[] bytes, int n, Tree into) {
            tokens.begin(bytes, n);
            into.clear();
            readThing(into, 0, 0);
            if (tokens.kind != END_TOKEN) {
                tokens.fail(CANT_STAND);
            }
            return tokens.fault;
        }

        private void readThing(Tree into, int depth, int key) {
            if (!canBegin(tokens.kind)) {
                tokens.fail(CANT_STAND);
            } else if (into.size >= MOST_THINGS || depth > MOST_DEPTH) {
                tokens.fail(TOO_MUCH);
            } else if (tokens.kind == '[') {
                readList(into, depth, key);
            } else if (tokens.kind == '{') {
                readMap(into, depth, key);
            } else if (tokens.kind == WORD_TOKEN) {
                into.addThing(WORD, firstLetterHighest(tokens.takeLetters()), key, depth);
            } else {
                into.addThing(NUMBER, tokens.takeNumber(), key, depth);
            }
        }

        private static boolean canBegin(int token) {
            return token == '-' || token == DIGITS_TOKEN || token == WORD_TOKEN
                    || token == '[' || token == '{';
        }

        private void readList(Tree into, int depth, int key) {
            into.addThing(LIST, 0, key, depth);
            tokens.step();
            boolean more = tokens.kind != ']';
            for (int k = 0; more && k < TAPE_ROOM; k++) {
                readThing(into, depth + 1, 0);
                more = tokens.kind == ',';
                if (more) {
                    tokens.step();
                }
            }
            tokens.expect(']');
        }

        private void readMap(Tree into, int depth, int key) {
            int map = into.addThing(MAP, 0, key, depth);
            tokens.step();
            boolean more = tokens.kind != '}';
            for (int k = 0; more && k < TAPE_ROOM; k++) {
                int own = readKey(into, map);
                tokens.expect(':');
                readThing(into, depth + 1, own);
                more = tokens.kind == ',';
                if (more) {
                    tokens.step();
                }
            }
            tokens.expect('}');
        }

        private int readKey(Tree into, int map) {
            if (tokens.kind == WORD_TOKEN && !tokens.isLongerThan(MOST_LETTERS)
                    && into.childBy(map, tokens.value()) != NONE) {
                tokens.fail(KEY_TWICE);
            }
            return tokens.takeLetters();
        }
    }

    /**
     * A compiled path. A filter's condition stands behind the things it asks about: tests (by number),
     * then what joins them; its end is told by a sign of its own.
     */
    private static final class Path {
        private static final int AND = -2;
        private static final int OR = -3;
        private static final int NOT = -4;
        private static final int STOP = -5;
        private static final int NO_SIGN = 0;
        private static final int CODE_ROOM = 128;
        private static final int LITTLE_ROOM = 200;

        private final int[] stepKinds = new int[MOST_STEPS];
        private final int[] stepFirsts = new int[MOST_STEPS];
        private final int[] stepSeconds = new int[MOST_STEPS];
        private int stepCount;
        private final int[] code = new int[CODE_ROOM];
        private int codeCount;
        private final boolean[] littleByKey = new boolean[LITTLE_ROOM];
        private final int[] littleValues = new int[LITTLE_ROOM];
        private int littleCount;
        private final int[] testEnds = new int[MOST_TESTS];
        private final int[] testSigns = new int[MOST_TESTS];
        private final int[] testKinds = new int[MOST_TESTS];
        private final int[] testValues = new int[MOST_TESTS];
        private int testCount;

        void clear() {
            stepCount = 0;
            codeCount = 0;
            littleCount = 0;
            testCount = 0;
        }

        void addStep(int kind, int first, int second) {
            if (stepCount >= 0 && stepCount < MOST_STEPS) {
                stepKinds[stepCount] = kind;
                stepFirsts[stepCount] = first;
                stepSeconds[stepCount] = second;
                stepCount++;
            }
        }

        void addCode(int what) {
            if (codeCount >= 0 && codeCount < CODE_ROOM) {
                code[codeCount] = what;
                codeCount++;
            }
        }

        void addLittle(boolean byKey, int value) {
            if (littleCount >= 0 && littleCount < LITTLE_ROOM) {
                littleByKey[littleCount] = byKey;
                littleValues[littleCount] = value;
                littleCount++;
            }
        }

        /** A test of where the little steps lead that came behind the last test. */
        void addTest(int sign, int kind, int value) {
            if (testCount >= 0 && testCount < MOST_TESTS) {
                testEnds[testCount] = littleCount;
                testSigns[testCount] = sign;
                testKinds[testCount] = kind;
                testValues[testCount] = value;
                addCode(testCount);
                testCount++;
            }
        }

        /** The things (bits) that the first steps lead to. */
        long answersIn(Tree tree, int steps) {
            long found = 1L;
            for (int step = 0; step < steps && step < stepCount; step++) {
                long from = found;
                found = 0L;
                for (int thing = 0; thing < tree.size; thing++) {
                    if (thing < MOST_THINGS && (from >>> thing & 1L) != 0L) {
                        found |= reached(tree, step, thing);
                    }
                }
            }
            return found;
        }

        private long reached(Tree tree, int step, int thing) {
            if (step < 0 || step >= stepCount) {
                return 0L;
            }
            switch (stepKinds[step]) {
                case BY_KEY: return bit(tree.childBy(thing, stepFirsts[step]));
                case BY_EACH: return children(tree, thing, 0, MOST_THINGS);
                case BY_ALL_WITHIN: return allWithin(tree, thing);
                case BY_PLACE: return bit(tree.listed(thing, stepFirsts[step]));
                case BY_STRETCH: return stretch(tree, step, thing);
                case BY_FILTER: return holds(tree, stepFirsts[step], thing) ? bit(thing) : 0L;
                default: return 0L;
            }
        }

        private static long allWithin(Tree tree, int thing) {
            long found = 0L;
            int last = tree.end(thing);
            for (int k = thing; k <= last; k++) {
                found |= bit(k);
            }
            return found;
        }

        private static long children(Tree tree, int thing, int from, int to) {
            long found = 0L;
            int inner = tree.depthAt(thing) + 1;
            int last = tree.end(thing);
            int place = 0;
            for (int k = thing + 1; k <= last; k++) {
                if (tree.depthAt(k) == inner) {
                    if (place >= from && place < to) {
                        found |= bit(k);
                    }
                    place++;
                }
            }
            return found;
        }

        private long stretch(Tree tree, int step, int thing) {
            if (step < 0 || step >= stepCount || tree.kindAt(thing) != LIST) {
                return 0L;
            }
            int length = tree.childCount(thing);
            int from = stepFirsts[step] < 0 ? stepFirsts[step] + length : stepFirsts[step];
            int to = stepSeconds[step] < 0 ? stepSeconds[step] + length : stepSeconds[step];
            return children(tree, thing, from, to);
        }

        // What has been found true so far stands as bits, the latest one lowest.
        private boolean holds(Tree tree, int from, int thing) {
            int found = 0;
            for (int at = Math.max(0, from); at < codeCount && at < CODE_ROOM; at++) {
                int what = code[at];
                if (what == STOP) {
                    break;
                }
                if (what == NOT) {
                    found ^= 1;
                } else if (what == AND) {
                    found = found >>> 1 & (found | ~1);
                } else if (what == OR) {
                    found = found >>> 1 | found & 1;
                } else {
                    found = found << 1 | (testHolds(tree, what, thing) ? 1 : 0);
                }
            }
            return (found & 1) != 0;
        }

        private boolean testHolds(Tree tree, int test, int thing) {
            if (test < 0 || test >= testCount) {
                return false;
            }
            int at = thing;
            int first = test == 0 ? 0 : testEnds[test - 1];
            for (int k = Math.max(0, first); k < testEnds[test] && k < LITTLE_ROOM; k++) {
                at = littleByKey[k] ? tree.childBy(at, littleValues[k]) : tree.listed(at, littleValues[k]);
            }
            if (at == NONE || testSigns[test] == NO_SIGN) {
                return at != NONE;
            }
            if (tree.kindAt(at) != testKinds[test]) {
                return false;
            }
            int value = tree.valueAt(at);
            if (testSigns[test] == '=') {
                return value == testValues[test];
            }
            return testSigns[test] == '<' ? value < testValues[test] : value > testValues[test];
        }
    }

    /** Compiles texts to paths. */
    private static final class PathReader {
        // Further than any list is long: a stretch is held to the list's length.
        private static final int TO_THE_END = 1000;

        private final Tokens tokens;

        PathReader(Tokens tokens) {
            this.tokens = tokens;
        }

        /** 0, or the fault; behind a fault the path is of no use. */
        int read(int[] bytes, int n, Path into) {
            tokens.begin(bytes, n);
            into.clear();
            for (int k = 0; tokens.fault == 0 && tokens.kind != END_TOKEN && k < TAPE_ROOM; k++) {
                readStep(into);
            }
            return tokens.fault;
        }

        private void readStep(Path into) {
            int kind = tokens.kind;
            if (kind != '.' && kind != DOTS_TOKEN && kind != '[' && kind != '?') {
                tokens.fail(CANT_STAND);
            } else if (into.stepCount >= MOST_STEPS) {
                tokens.fail(TOO_MUCH);
            } else {
                tokens.step();
                if (kind == '.') {
                    readName(into);
                } else if (kind == DOTS_TOKEN) {
                    into.addStep(BY_ALL_WITHIN, 0, 0);
                } else if (kind == '[') {
                    readPlaces(into);
                } else {
                    readFilter(into);
                }
            }
        }

        private void readName(Path into) {
            if (tokens.kind == '*') {
                tokens.step();
                into.addStep(BY_EACH, 0, 0);
            } else {
                into.addStep(BY_KEY, tokens.takeLetters(), 0);
            }
        }

        private void readPlaces(Path into) {
            int first = tokens.kind == ':' ? 0 : tokens.takeNumber();
            if (tokens.kind == ']') {
                tokens.step();
                into.addStep(BY_PLACE, first, 0);
            } else {
                tokens.expect(':');
                int second = tokens.kind == ']' ? TO_THE_END : tokens.takeNumber();
                tokens.expect(']');
                into.addStep(BY_STRETCH, first, second);
            }
        }

        private void readFilter(Path into) {
            int from = into.codeCount;
            tokens.expect('(');
            readCond(into, 0);
            tokens.expect(')');
            into.addCode(Path.STOP);
            into.addStep(BY_FILTER, from, 0);
        }

        private void readCond(Path into, int level) {
            readAll(into, level);
            for (int k = 0; tokens.kind == '|' && k < TAPE_ROOM; k++) {
                tokens.step();
                readAll(into, level);
                into.addCode(Path.OR);
            }
        }

        private void readAll(Path into, int level) {
            readAtom(into, level);
            for (int k = 0; tokens.kind == '&' && k < TAPE_ROOM; k++) {
                tokens.step();
                readAtom(into, level);
                into.addCode(Path.AND);
            }
        }

        private void readAtom(Path into, int level) {
            int kind = tokens.kind;
            if (kind != '!' && kind != '(' && kind != '@') {
                tokens.fail(CANT_STAND);
            } else if (kind == '@' ? into.testCount >= MOST_TESTS : level >= MOST_NESTED_ATOMS) {
                tokens.fail(TOO_MUCH);
            } else {
                tokens.step();
                if (kind == '@') {
                    readTest(into);
                } else if (kind == '!') {
                    readAtom(into, level + 1);
                    into.addCode(Path.NOT);
                } else {
                    readCond(into, level + 1);
                    tokens.expect(')');
                }
            }
        }

        private void readTest(Path into) {
            for (int k = 0; (tokens.kind == '.' || tokens.kind == '[') && k < TAPE_ROOM; k++) {
                boolean byKey = tokens.kind == '.';
                tokens.step();
                if (byKey) {
                    into.addLittle(true, tokens.takeLetters());
                } else {
                    into.addLittle(false, tokens.takeNumber());
                    tokens.expect(']');
                }
            }
            int sign = tokens.kind;
            if (sign != '=' && sign != '<' && sign != '>') {
                into.addTest(Path.NO_SIGN, NONE, 0);
                return;
            }
            tokens.step();
            if (tokens.kind == WORD_TOKEN) {
                into.addTest(sign, WORD, firstLetterHighest(tokens.takeLetters()));
            } else {
                into.addTest(sign, NUMBER, tokens.takeNumber());
            }
        }
    }

    /** What an image keeps: the tree, the acts (by the tree ahead of each), what is noted, the status. */
    private static final class State {
        private final Tree tree = new Tree(MOST_THINGS);
        private final Tree[] before = new Tree[MOST_ACTS];
        private int actCount;
        private final int[] notedThings = new int[MOST_NOTED];
        private final boolean[] notedIs = new boolean[MOST_NOTED];
        private int notedCount;
        private final int[] refused = new int[3];

        void refuse(int what) {
            if (what >= 0 && what < refused.length) {
                refused[what]++;
            }
        }

        int refusedOf(int what) {
            return what < 0 || what >= refused.length ? 0 : refused[what];
        }

        /** The tree as it is becomes what the next act changes; beyond the most the oldest is lost. */
        void remember() {
            if (actCount >= MOST_ACTS) {
                loseOldest();
            }
            if (actCount >= 0 && actCount < MOST_ACTS) {
                Tree there = before[actCount];
                // Made when first needed: most objects never keep so many acts.
                if (there == null) {
                    there = new Tree(MOST_THINGS);
                    before[actCount] = there;
                }
                there.become(tree);
                actCount++;
            }
        }

        private void loseOldest() {
            Tree oldest = before[0];
            for (int k = 1; k < MOST_ACTS; k++) {
                before[k - 1] = before[k];
            }
            before[MOST_ACTS - 1] = oldest;
            actCount = MOST_ACTS - 1;
        }

        int stepBack() {
            if (actCount < 1 || actCount > MOST_ACTS) {
                return NONE;
            }
            actCount--;
            Tree earlier = before[actCount];
            if (earlier != null) {
                tree.become(earlier);
            }
            return actCount;
        }

        /** False if there is no more room for notes. */
        boolean notes(int thing, boolean is) {
            if (notedCount < 0 || notedCount >= MOST_NOTED) {
                return false;
            }
            notedThings[notedCount] = thing;
            notedIs[notedCount] = is;
            notedCount++;
            return true;
        }

        boolean notedFits(long answers) {
            for (int k = 0; k < notedCount && k < MOST_NOTED; k++) {
                if (isIn(answers, notedThings[k]) != notedIs[k]) {
                    return false;
                }
            }
            return true;
        }

        void takeAll(State other) {
            tree.become(other.tree);
            actCount = other.actCount;
            for (int k = 0; k < actCount && k < MOST_ACTS; k++) {
                takeBefore(k, other.before[k]);
            }
            notedCount = other.notedCount;
            for (int k = 0; k < MOST_NOTED; k++) {
                notedThings[k] = other.notedThings[k];
                notedIs[k] = other.notedIs[k];
            }
            for (int k = 0; k < refused.length && k < other.refused.length; k++) {
                refused[k] = other.refused[k];
            }
        }

        private void takeBefore(int k, Tree earlier) {
            if (k < 0 || k >= MOST_ACTS || earlier == null) {
                return;
            }
            Tree there = before[k];
            if (there == null) {
                there = new Tree(MOST_THINGS);
                before[k] = there;
            }
            there.become(earlier);
        }
    }

    /**
     * Acts on the tree of a state. Each is built on a work tree, from the last answer to the first: so
     * what is within an answer is changed ahead of it, and the numbers of those still to come stay.
     */
    private static final class Acts {
        private final State now;
        private final Tree work = new Tree(WORK_ROOM);
        private final Tree moved = new Tree(WORK_ROOM);
        private final int[] order = new int[WORK_ROOM];

        Acts(State now) {
            this.now = now;
        }

        private boolean commit() {
            if (work.size < 1 || work.size > MOST_THINGS || work.deepest() > MOST_DEPTH) {
                return false;
            }
            now.remember();
            now.tree.become(work);
            return true;
        }

        private long ofKind(long answers, int kind) {
            long found = 0L;
            for (int i = 0; i < now.tree.size; i++) {
                if (isIn(answers, i) && now.tree.kindAt(i) == kind) {
                    found |= bit(i);
                }
            }
            return found;
        }

        // Each place gets a copy of the data that stays, so more copies can never be few enough.
        private static boolean tooManyCopies(long places, Tree data) {
            return Long.bitCount(places) * data.size > MOST_THINGS;
        }

        int putAll(long answers, Tree data) {
            long outer = outermost(answers);
            if (outer == 0L || tooManyCopies(outer, data)) {
                return NONE;
            }
            work.become(now.tree);
            for (int i = MOST_THINGS - 1; i >= 0; i--) {
                if (isIn(outer, i) && !work.replace(i, data, 0)) {
                    return NONE;
                }
            }
            return commit() ? Long.bitCount(outer) : NONE;
        }

        private long outermost(long answers) {
            long outer = 0L;
            int covered = NONE;
            for (int i = 0; i < now.tree.size; i++) {
                if (i > covered && isIn(answers, i)) {
                    outer |= bit(i);
                    covered = now.tree.end(i);
                }
            }
            return outer;
        }

        int appendAll(long answers, Tree data) {
            long lists = ofKind(answers, LIST);
            if (lists == 0L || tooManyCopies(lists, data)) {
                return NONE;
            }
            work.become(now.tree);
            for (int i = MOST_THINGS - 1; i >= 0; i--) {
                if (isIn(lists, i) && !work.graftBehindAll(i, 0, data, 0)) {
                    return NONE;
                }
            }
            return commit() ? Long.bitCount(lists) : NONE;
        }

        int keyAll(long answers, int key, Tree data) {
            long maps = ofKind(answers, MAP);
            long staying = maps & ~replacedByKey(maps, key);
            if (maps == 0L || tooManyCopies(staying, data)) {
                return NONE;
            }
            work.become(now.tree);
            for (int i = MOST_THINGS - 1; i >= 0; i--) {
                if (isIn(staying, i) && !setByKey(i, key, data)) {
                    return NONE;
                }
            }
            return commit() ? Long.bitCount(maps) : NONE;
        }

        // Maps within what another map has by the key are gone behind the act: building them is vain,
        // and could need more room than there is.
        private long replacedByKey(long maps, int key) {
            long gone = 0L;
            for (int i = 0; i < now.tree.size; i++) {
                int old = isIn(maps, i) ? now.tree.childBy(i, key) : NONE;
                int last = now.tree.end(old);
                for (int k = Math.max(0, old); k <= last; k++) {
                    gone |= bit(k);
                }
            }
            return gone;
        }

        private boolean setByKey(int map, int key, Tree data) {
            int old = work.childBy(map, key);
            return old == NONE ? work.graftBehindAll(map, key, data, 0) : work.replace(old, data, 0);
        }

        int addAll(long answers, int v) {
            long numbers = ofKind(answers, NUMBER);
            if (numbers == 0L) {
                return NONE;
            }
            work.become(now.tree);
            for (int i = 0; i < work.size; i++) {
                if (isIn(numbers, i)) {
                    int together = work.valueAt(i) + v;
                    work.setValue(i, Math.max(-MOST_NUMBER, Math.min(MOST_NUMBER, together)));
                }
            }
            return commit() ? Long.bitCount(numbers) : NONE;
        }

        /** Sorts lists, or turns lists and maps round. */
        int rearrangeAll(long answers, boolean sorted) {
            long lists = ofKind(answers, LIST);
            long holders = sorted ? lists : lists | ofKind(answers, MAP);
            if (holders == 0L) {
                return NONE;
            }
            work.become(now.tree);
            for (int i = MOST_THINGS - 1; i >= 0; i--) {
                if (isIn(holders, i)) {
                    rearrange(i, sorted);
                }
            }
            return commit() ? Long.bitCount(holders) : NONE;
        }

        private void rearrange(int holder, boolean sorted) {
            int children = orderOf(holder, sorted);
            moved.clear();
            for (int k = 0; k < children && k < WORK_ROOM; k++) {
                int child = order[sorted ? k : children - 1 - k];
                moved.graft(moved.size, work.depthAt(child), work.keyAt(child), work, child);
            }
            work.overlay(holder + 1, moved);
        }

        /** Lays the children into the order row, as they stand or sorted: how many. */
        private int orderOf(int holder, boolean sorted) {
            int children = Math.min(work.childCount(holder), WORK_ROOM);
            int child = holder + 1;
            for (int k = 0; k < children; k++) {
                int at = k;
                while (sorted && at > 0 && isBehind(order[at - 1], child)) {
                    order[at] = order[at - 1];
                    at--;
                }
                order[at] = child;
                child = work.end(child) + 1;
            }
            return children;
        }

        // Kinds are numbered in the order in which they are sorted; lists and maps have no value.
        private boolean isBehind(int one, int other) {
            int kind = work.kindAt(one);
            int otherKind = work.kindAt(other);
            return kind == otherKind ? work.valueAt(one) > work.valueAt(other) : kind > otherKind;
        }

        int dropAll(long answers) {
            if (answers == 0L || isIn(answers, 0)) {
                return NONE;
            }
            work.become(now.tree);
            for (int i = MOST_THINGS - 1; i >= 0; i--) {
                if (isIn(answers, i)) {
                    work.cut(i);
                }
            }
            return commit() ? Long.bitCount(answers) : NONE;
        }

        int moveThing(int thing, int to, int key) {
            Tree tree = now.tree;
            if (thing == 0 || !tree.has(thing) || !tree.has(to)) {
                return NONE;
            }
            if (to >= thing && to <= tree.end(thing) || !takesBehindAll(to, key)) {
                return NONE;
            }
            work.become(tree);
            work.cut(thing);
            int target = to < thing ? to : to - tree.sizeOf(thing);
            int number = work.end(target) + 1;
            boolean laid = work.graftBehindAll(target, key, tree, thing);
            return laid && commit() ? number : NONE;
        }

        private boolean takesBehindAll(int to, int key) {
            if (now.tree.kindAt(to) == LIST) {
                return key == 0;
            }
            return now.tree.kindAt(to) == MAP && isWord(key) && now.tree.childBy(to, key) == NONE;
        }

        int layOn(Patch patch, boolean turned) {
            if (patch.rowCount < 1) {
                return NONE;
            }
            work.become(now.tree);
            return patch.layOn(work, turned) && commit() ? patch.rowCount : NONE;
        }
    }

    /** The patch from one tree to another one, with both of them. */
    private static final class Patch {
        // Each row has a thing of its own of one of both trees.
        private static final int ROW_ROOM = 2 * MOST_THINGS;

        private final Tree from = new Tree(MOST_THINGS);
        private final Tree to = new Tree(MOST_THINGS);
        private final int[] rowFrom = new int[ROW_ROOM];
        private final int[] rowTo = new int[ROW_ROOM];
        private int rowCount;

        /** Becomes the patch between both: how many rows. */
        int compare(Tree first, Tree second) {
            from.become(first);
            to.become(second);
            rowCount = 0;
            rowsOf(0, 0, 0);
            return rowCount;
        }

        private void addRow(int was, int is) {
            if (rowCount >= 0 && rowCount < ROW_ROOM) {
                rowFrom[rowCount] = was;
                rowTo[rowCount] = is;
                rowCount++;
            }
        }

        private void rowsOf(int was, int is, int level) {
            if (level > MOST_LEVELS || from.like(was, to, is, 0)) {
                return;
            }
            int kind = from.kindAt(was);
            if (kind == MAP && to.kindAt(is) == MAP) {
                rowsOfMaps(was, is, level);
            } else if (kind == LIST && to.kindAt(is) == LIST) {
                rowsOfLists(was, is, level);
            } else {
                addRow(was, is);
            }
        }

        private void rowsOfMaps(int was, int is, int level) {
            int children = from.childCount(was);
            for (int k = 0; k < children; k++) {
                int child = from.childAt(was, k);
                int partner = to.childBy(is, from.keyAt(child));
                if (partner == NONE) {
                    addRow(child, NONE);
                } else {
                    rowsOf(child, partner, level + 1);
                }
            }
            int fresh = to.childCount(is);
            for (int k = 0; k < fresh; k++) {
                int child = to.childAt(is, k);
                if (from.childBy(was, to.keyAt(child)) == NONE) {
                    addRow(NONE, child);
                }
            }
        }

        private void rowsOfLists(int was, int is, int level) {
            int before = from.childCount(was);
            int after = to.childCount(is);
            int both = Math.min(before, after);
            for (int k = 0; k < both; k++) {
                rowsOf(from.childAt(was, k), to.childAt(is, k), level + 1);
            }
            for (int k = both; k < after; k++) {
                addRow(NONE, to.childAt(is, k));
            }
            for (int k = before - 1; k >= both; k--) {
                addRow(from.childAt(was, k), NONE);
            }
        }

        private int wasOf(int row) {
            return row < 0 || row >= rowCount ? NONE : rowFrom[row];
        }

        private int isOf(int row) {
            return row < 0 || row >= rowCount ? NONE : rowTo[row];
        }

        int kindOf(int row) {
            if (wasOf(row) == NONE) {
                return COMES;
            }
            return isOf(row) == NONE ? GOES : BECOMES;
        }

        int stepsOf(int row) {
            return wasOf(row) == NONE ? to.depthAt(isOf(row)) : from.depthAt(wasOf(row));
        }

        int thingsBefore(int row) {
            return from.sizeOf(wasOf(row));
        }

        int thingsAfter(int row) {
            return to.sizeOf(isOf(row));
        }

        void tellRow(int row, TextOut text) {
            int kind = kindOf(row);
            text.clear();
            text.write(kind == COMES ? '+' : kind == GOES ? '-' : '=');
            if (kind == COMES) {
                text.writePath(to, isOf(row));
            } else {
                text.writePath(from, wasOf(row));
            }
            if (kind != GOES) {
                text.write(' ');
                text.writeThing(to, isOf(row), 0);
            }
        }

        /** Lays all rows on a tree; false, and the tree is of no use, if one does not fit. */
        boolean layOn(Tree work, boolean turned) {
            boolean fits = true;
            for (int k = 0; k < rowCount && fits; k++) {
                fits = turned
                        ? layRow(work, to, isOf(rowCount - 1 - k), from, wasOf(rowCount - 1 - k))
                        : layRow(work, from, wasOf(k), to, isOf(k));
            }
            return fits;
        }

        private static boolean layRow(Tree work, Tree old, int was, Tree fresh, int is) {
            if (was == NONE) {
                return layComing(work, fresh, is);
            }
            int there = ledTo(work, old, was, old.depthAt(was));
            if (there == NONE || !old.like(was, work, there, 0)) {
                return false;
            }
            if (is != NONE) {
                return work.replace(there, fresh, is);
            }
            return layGoing(work, there);
        }

        private static boolean layComing(Tree work, Tree fresh, int is) {
            int depth = fresh.depthAt(is);
            if (depth < 1) {
                return false;
            }
            int holder = ledTo(work, fresh, is, depth - 1);
            int kind = fresh.kindAt(fresh.parentOf(is));
            if (holder == NONE || work.kindAt(holder) != kind) {
                return false;
            }
            boolean free = kind == MAP
                    ? work.childBy(holder, fresh.keyAt(is)) == NONE
                    : work.childCount(holder) == fresh.placeOf(is);
            return free && work.graft(work.end(holder) + 1, depth, fresh.keyAt(is), fresh, is);
        }

        private static boolean layGoing(Tree work, int there) {
            int holder = work.parentOf(there);
            if (holder == NONE || work.kindAt(holder) == LIST && work.end(holder) != work.end(there)) {
                return false;
            }
            work.cut(there);
            return true;
        }

        /** Where the path of a thing of another tree leads, as far as to a depth. */
        private static int ledTo(Tree work, Tree source, int thing, int depth) {
            int at = 0;
            for (int d = 1; d <= depth && d <= MOST_LEVELS; d++) {
                int onTheWay = source.ancestorAt(thing, d);
                at = source.kindAt(source.parentOf(onTheWay)) == MAP
                        ? work.childBy(at, source.keyAt(onTheWay))
                        : work.listed(at, source.placeOf(onTheWay));
            }
            return at;
        }
    }

    /** A text that is written byte by byte. */
    private static final class TextOut {
        // The longest: 60 things with keys and words of 6 letters, behind a path of 7 such keys.
        private static final int ROOM = 1024;

        private final int[] bytes = new int[ROOM];
        private int length;

        void clear() {
            length = 0;
        }

        void write(int sign) {
            if (length >= 0 && length < ROOM) {
                bytes[length] = sign;
                length++;
            }
        }

        int byteAt(int i) {
            return i < 0 || i >= length ? NONE : bytes[i];
        }

        private void writeNumber(int number) {
            int rest = Math.abs(number);
            if (number < 0) {
                write('-');
            }
            if (rest >= 100) {
                write('0' + rest / 100 % 10);
            }
            if (rest >= 10) {
                write('0' + rest / 10 % 10);
            }
            write('0' + rest % 10);
        }

        private void writeWord(int word) {
            for (int shift = 5 * (MOST_LETTERS - 1); shift >= 0; shift -= 5) {
                int letter = word >>> shift & 31;
                if (letter > 0) {
                    write('a' + letter - 1);
                }
            }
        }

        void writePath(Tree tree, int thing) {
            int depth = tree.depthAt(thing);
            for (int d = 1; d <= depth; d++) {
                int onTheWay = tree.ancestorAt(thing, d);
                if (tree.kindAt(tree.parentOf(onTheWay)) == MAP) {
                    write('.');
                    writeWord(tree.keyAt(onTheWay));
                } else {
                    write('[');
                    writeNumber(tree.placeOf(onTheWay));
                    write(']');
                }
            }
        }

        void writeThing(Tree tree, int thing, int level) {
            int kind = tree.kindAt(thing);
            if (kind == NUMBER) {
                writeNumber(tree.valueAt(thing));
            } else if (kind == WORD) {
                writeWord(tree.valueAt(thing));
            } else if (level <= MOST_LEVELS) {
                writeHolder(tree, thing, level);
            }
        }

        private void writeHolder(Tree tree, int holder, int level) {
            boolean map = tree.kindAt(holder) == MAP;
            int children = tree.childCount(holder);
            int child = holder + 1;
            write(map ? '{' : '[');
            for (int k = 0; k < children; k++) {
                if (k > 0) {
                    write(',');
                }
                if (map) {
                    writeWord(tree.keyAt(child));
                    write(':');
                }
                writeThing(tree, child, level + 1);
                child = tree.end(child) + 1;
            }
            write(map ? '}' : ']');
        }
    }
}
