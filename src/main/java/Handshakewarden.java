import java.util.Arrays;
import java.util.NoSuchElementException;

/**
 * A hall of handshakes: protocols of several roles told as a whole, cut into the part of each role,
 * and run by queues. The document ../shared/DOC.md says what each call of the face does.
 *
 * <p>Wholes and parts never change once they are made, so slots, runs and images share them. The
 * workers (reader, cutter, comparer, explorer, weaver) are made once and keep their room.
 */
public final class Handshakewarden {
    public static final int NONE = -1;

    private static final int ROLES = 6;
    private static final int KINDS = 10;
    private static final int WHOLES = 4;
    private static final int SLOTS = 8;
    private static final int IMAGES = 2;
    private static final int BOUNDS = 5;
    private static final int LONGEST_ROW = 12;
    private static final int TAPE_LIMIT = 240;

    /** A text of 240 bytes tells fewer places than this; sets of places are kept in a long. */
    private static final int PLACE_LIMIT = 64;
    private static final int WOVEN_LIMIT = 40;
    private static final int OPEN_LIMIT = 12;
    private static final int CONFIGURATION_LIMIT = 600;
    /**
     * What the document does not limit is refused beyond these, far above what a text of 240 bytes can
     * reach: states of a part, configurations without queues, and words of pairs that were seen.
     */
    private static final int STATE_LIMIT = 1 << 18;
    private static final int MEETING_LIMIT = 1 << 18;
    private static final int SEEN_LIMIT = 1 << 22;

    private static final int END = 0;
    private static final int LETTER = 1;
    private static final int BESIDE = 2;
    private static final int SEND = 1;
    private static final int HEAR = 2;

    private static final int OVER = 1;
    private static final int LEFT_OVER = 2;
    private static final int STUCK = 3;

    private static final String EXAMPLE_0 = "loop x a>b{0:b>c{1:x},2:b>c{3:end}}";
    private static final String EXAMPLE_1 = "a>b{0:a>c{0:b>c{1:end}},1:a>c{1:c>b{2:end}}}";
    private static final String EXAMPLE_2 = "a>b{0:b>c{1:end},1:c>b{2:end}}";
    private static final String EXAMPLE_3 = "(a>b{0:end}|loop y c>d{1:y,2:d>c{3:end}})";
    private static final String EXAMPLE_4 = "loop x a>b{0:b>a{1:x,2:end},3:b>a{4:end}}";

    private final int[] tape = new int[TAPE_LIMIT];
    private int tapeLength;
    private int error = NONE;

    private final Hall hall = new Hall();
    private final Hall[] images = new Hall[IMAGES];

    private final Reader reader = new Reader();
    private final Cutter cutter = new Cutter();
    private final Comparer comparer = new Comparer();
    private final Explorer explorer = new Explorer();
    private final Weaver weaver = new Weaver();

    public Handshakewarden() {
    }

    // ---- The tape, wholes

    public int append(int a, int b, int c, int d, int e) throws IllegalStateException {
        int[] words = {a, b, c, d, e};
        int length = tapeLength;
        for (int i = 0; i < words.length; i++) {
            length += bytesIn(words[i]);
        }
        if (length > TAPE_LIMIT) {
            throw new IllegalStateException("the tape is full");
        }
        for (int i = 0; i < words.length; i++) {
            appendWord(words[i]);
        }
        return tapeLength;
    }

    public int clearTape() {
        int length = tapeLength;
        tapeLength = 0;
        return length;
    }

    public int errorPosition() {
        return error;
    }

    public int read(int whole) throws IllegalArgumentException {
        checkRange(whole, WHOLES);
        Whole found = reader.parse(tape, tapeLength);
        tapeLength = 0;
        error = reader.error;
        if (found == null) {
            throw new IllegalArgumentException("the text has an error");
        }
        keepWhole(whole, found);
        return found.count;
    }

    public int example(int which) throws IllegalArgumentException {
        checkRange(which, 5);
        String text = exampleText(which);
        tapeLength = 0;
        for (int i = 0; i < text.length() && i < TAPE_LIMIT; i++) {
            appendByte(text.charAt(i));
        }
        return tapeLength;
    }

    public int places(int whole) throws IllegalArgumentException {
        return wholeAt(whole).count;
    }

    public int placeAt(int whole, int place, int what)
            throws IllegalArgumentException, IndexOutOfBoundsException {
        Whole asked = wholeAt(whole);
        checkRange(what, 4);
        checkPlace(place, asked.count);
        return asked.tells(place, what);
    }

    public int next(int whole, int place, int kind)
            throws IllegalArgumentException, IndexOutOfBoundsException {
        Whole asked = wholeAt(whole);
        checkRange(kind, KINDS);
        checkPlace(place, asked.count);
        return asked.behind(place, kind);
    }

    public int roles(int whole) throws IllegalArgumentException {
        return wholeAt(whole).standing;
    }

    public boolean areAlike(int whole, int other) throws IllegalArgumentException {
        return comparer.alike(wholeAt(whole), wholeAt(other));
    }

    // ---- Cutting, parts

    public int cut(int whole) throws IllegalArgumentException {
        Whole asked = cutWhole(whole);
        return asked.cast == null ? NONE : Integer.bitCount(asked.standing);
    }

    public int why(int whole, int what) throws IllegalArgumentException {
        Whole asked = wholeAt(whole);
        checkRange(what, 3);
        cutter.cutAll(asked);
        return cell(asked.clash, what);
    }

    public int part(int whole, int role, int slot)
            throws IllegalArgumentException, IllegalStateException {
        Whole asked = wholeAt(whole);
        checkRange(role, ROLES);
        checkRange(slot, SLOTS);
        cutter.cutAll(asked);
        Part found = asked.partOf(role);
        if (found == null) {
            throw new IllegalStateException("the whole cannot be cut for this role");
        }
        hall.keepPart(slot, found);
        return found.count;
    }

    public int mirror(int slot, int to) throws IllegalArgumentException, IllegalStateException {
        Part asked = slotAt(slot);
        checkRange(to, SLOTS);
        if (asked.onlyOther() == NONE) {
            throw new IllegalStateException("the part has not just one other role");
        }
        Part mirrored = asked.turned();
        hall.keepPart(to, mirrored);
        return mirrored.role;
    }

    public int roleOf(int slot) throws IllegalArgumentException {
        return slotAt(slot).role;
    }

    public int states(int slot) throws IllegalArgumentException {
        return slotAt(slot).count;
    }

    public int stateAt(int slot, int state, int what)
            throws IllegalArgumentException, IndexOutOfBoundsException {
        Part asked = slotAt(slot);
        checkRange(what, 3);
        checkPlace(state, asked.count);
        return asked.tells(state, what);
    }

    public int step(int slot, int state, int kind)
            throws IllegalArgumentException, IndexOutOfBoundsException {
        Part asked = slotAt(slot);
        checkRange(kind, KINDS);
        checkPlace(state, asked.count);
        return asked.behind(state, kind);
    }

    public boolean isBelow(int slot, int other) throws IllegalArgumentException {
        return comparer.below(slotAt(slot), slotAt(other));
    }

    public int shows(int slot, int other) throws IllegalArgumentException {
        return comparer.rowLength(slotAt(slot), slotAt(other));
    }

    public int showsAt(int slot, int other, int place)
            throws IllegalArgumentException, IndexOutOfBoundsException {
        checkPlace(place, comparer.rowLength(slotAt(slot), slotAt(other)));
        return comparer.rowKind(place);
    }

    public boolean fit(int slot, int other) throws IllegalArgumentException {
        Part one = slotAt(slot);
        Part two = slotAt(other);
        if (one.onlyOther() != two.role || two.onlyOther() != one.role) {
            return false;
        }
        return comparer.below(one, two.turned());
    }

    // ---- A run

    public int begin(int whole, int bound) throws IllegalArgumentException, IllegalStateException {
        Whole asked = wholeAt(whole);
        checkBound(bound);
        hall.beginRun(castOf(asked), bound);
        return Integer.bitCount(asked.standing);
    }

    public int put(int slot) throws IllegalArgumentException, IllegalStateException {
        Part given = slotAt(slot);
        Cast cast = cast();
        if (hall.sent > 0 || !hasBit(cast.standing, given.role)) {
            throw new IllegalStateException("the role cannot get another part now");
        }
        hall.changeCast(cast.with(given));
        return given.role;
    }

    public int send(int role, int kind)
            throws IndexOutOfBoundsException, IllegalArgumentException, IllegalStateException {
        Cast cast = castWith(role);
        checkRange(kind, KINDS);
        int state = cell(hall.states, role);
        int queue = queueNumber(role, cast.otherOf(role, state));
        if (cast.sortOf(role, state) != SEND || !hasBit(cast.kindsOf(role, state), kind)) {
            throw new IllegalStateException("the role does not send this kind now");
        }
        int letters = cell(hall.queues, queue);
        if (lettersIn(letters) >= hall.bound) {
            throw new IllegalStateException("the queue is full");
        }
        setCell(hall.queues, queue, withLetter(letters, kind));
        setCell(hall.states, role, cast.behind(role, state, kind));
        hall.sent++;
        return lettersIn(letters) + 1;
    }

    public int hear(int role)
            throws IndexOutOfBoundsException, IllegalStateException, NoSuchElementException {
        Cast cast = castWith(role);
        int state = cell(hall.states, role);
        if (cast.sortOf(role, state) != HEAR) {
            throw new IllegalStateException("the role does not hear now");
        }
        int queue = queueNumber(cast.otherOf(role, state), role);
        int letters = cell(hall.queues, queue);
        if (lettersIn(letters) == 0) {
            throw new NoSuchElementException("the queue is empty");
        }
        int kind = kindIn(letters, 0);
        if (!hasBit(cast.kindsOf(role, state), kind)) {
            throw new IllegalStateException("the letter is not known");
        }
        setCell(hall.queues, queue, withoutFirst(letters));
        setCell(hall.states, role, cast.behind(role, state, kind));
        return kind;
    }

    public int stateOf(int role) throws IndexOutOfBoundsException {
        castWith(role);
        return cell(hall.states, role);
    }

    public int queue(int from, int to) throws IllegalArgumentException {
        return lettersIn(lettersOf(from, to));
    }

    public int queueAt(int from, int to, int place)
            throws IllegalArgumentException, IndexOutOfBoundsException {
        int letters = lettersOf(from, to);
        checkPlace(place, lettersIn(letters));
        return kindIn(letters, place);
    }

    public int stands() {
        Cast cast = hall.cast;
        if (cast == null) {
            return NONE;
        }
        if (cast.isOver(hall.states)) {
            return hall.isLetterLeft() ? LEFT_OVER : OVER;
        }
        for (int role = 0; role < ROLES; role++) {
            if (hall.canGoOn(role)) {
                return 0;
            }
        }
        return STUCK;
    }

    public int sent() {
        return hall.sent;
    }

    // ---- All runs

    public int all(int bound, int what) throws IllegalArgumentException, IllegalStateException {
        checkBound(bound);
        checkRange(what, 5);
        return explorer.findings(cast(), bound).answer(what);
    }

    public int ringAt(int bound, int place)
            throws IllegalArgumentException, IllegalStateException, NoSuchElementException {
        checkBound(bound);
        Findings found = explorer.findings(cast(), bound);
        if (place < 0 || place >= found.ringLength()) {
            throw new NoSuchElementException("there is no such place in a ring");
        }
        return cell(found.ring, place);
    }

    public int least() throws IllegalStateException {
        Cast cast = cast();
        for (int bound = 1; bound <= BOUNDS; bound++) {
            Findings found = explorer.findings(cast, bound);
            if (found.count == NONE) {
                return NONE;
            }
            if (!found.hindered) {
                return bound;
            }
        }
        return NONE;
    }

    public long rows(int whole, int length)
            throws IllegalArgumentException, IllegalStateException {
        Whole asked = wholeAt(whole);
        checkRange(length, LONGEST_ROW + 1);
        return weaver.countRows(castOf(asked), length);
    }

    // ---- Backward, the monitor

    public int back(int whole) throws IllegalArgumentException, IllegalStateException {
        checkRange(whole, WHOLES);
        Whole woven = weaver.weave(cast());
        if (woven == null) {
            return NONE;
        }
        keepWhole(whole, woven);
        return woven.count;
    }

    public boolean letter(int from, int to, int kind)
            throws IllegalArgumentException, IllegalStateException {
        checkRange(from, ROLES);
        checkRange(to, ROLES);
        checkRange(kind, KINDS);
        if (from == to) {
            throw new IllegalArgumentException("nobody sends to itself");
        }
        cast();
        return hall.watch(from, to, kind);
    }

    public int blame(int what) throws IllegalArgumentException {
        checkRange(what, 2);
        if (hall.fault == NONE) {
            return NONE;
        }
        return what == 0 ? hall.right : hall.fault;
    }

    // ---- Images, figures, second ways

    public int image(int image) throws IllegalArgumentException {
        checkRange(image, IMAGES);
        Hall copy = imageAt(image);
        if (copy == null) {
            copy = new Hall();
            keepImage(image, copy);
        }
        copy.copyFrom(hall);
        return hall.placesTogether();
    }

    public int restore(int image) throws IllegalArgumentException, NoSuchElementException {
        checkRange(image, IMAGES);
        Hall copy = imageAt(image);
        if (copy == null) {
            throw new NoSuchElementException("no image was kept there");
        }
        hall.copyFrom(copy);
        return hall.placesTogether();
    }

    public int checksum() {
        int sum = 17;
        for (int whole = 0; whole < WHOLES; whole++) {
            sum = 31 * sum + hall.wholeIn(whole).count;
        }
        for (int slot = 0; slot < SLOTS; slot++) {
            sum = 31 * sum + hall.partIn(slot).count;
        }
        for (int role = 0; role < ROLES; role++) {
            if (hall.cast != null && hasBit(hall.cast.standing, role)) {
                sum = 31 * sum + cell(hall.states, role);
            }
        }
        return sum;
    }

    public double meanKinds() {
        int kinds = 0;
        int letters = 0;
        for (int whole = 0; whole < WHOLES; whole++) {
            Whole asked = hall.wholeIn(whole);
            for (int place = 0; place < asked.count; place++) {
                kinds += Integer.bitCount(asked.tells(place, Whole.KIND_SET));
                letters += asked.tells(place, Whole.SORT) == LETTER ? 1 : 0;
            }
        }
        return letters == 0 ? 0.0 : (double) kinds / (double) letters;
    }

    public float cutShare() {
        int cuttable = 0;
        for (int whole = 0; whole < WHOLES; whole++) {
            cuttable += cutWhole(whole).cast == null ? 0 : 1;
        }
        return (float) cuttable / 4.0f;
    }

    public int errors() {
        int wrong = 0;
        for (int whole = 0; whole < WHOLES; whole++) {
            Cast cast = cutWhole(whole).cast;
            wrong += cast != null && explorer.findings(cast, 1).isBad() ? 1 : 0;
        }
        for (int slot = 0; slot < SLOTS; slot++) {
            Part asked = hall.partIn(slot);
            wrong += comparer.below(asked, asked) ? 0 : 1;
            wrong += asked.onlyOther() == NONE || asked.sameAs(asked.turned().turned()) ? 0 : 1;
        }
        return wrong;
    }

    // ---- Tests of the arguments

    private static void checkRange(int number, int count) {
        if (number < 0 || number >= count) {
            throw new IllegalArgumentException("a number is out of range");
        }
    }

    private static void checkBound(int bound) {
        if (bound < 1 || bound > BOUNDS) {
            throw new IllegalArgumentException("the bound is out of range");
        }
    }

    private static void checkPlace(int place, int count) {
        if (place < 0 || place >= count) {
            throw new IndexOutOfBoundsException("there is no such place");
        }
    }

    private Whole wholeAt(int whole) {
        checkRange(whole, WHOLES);
        return hall.wholeIn(whole);
    }

    private Whole cutWhole(int whole) {
        Whole asked = wholeAt(whole);
        cutter.cutAll(asked);
        return asked;
    }

    private Part slotAt(int slot) {
        checkRange(slot, SLOTS);
        return hall.partIn(slot);
    }

    private Cast castOf(Whole whole) {
        cutter.cutAll(whole);
        if (whole.cast == null) {
            throw new IllegalStateException("the whole cannot be cut");
        }
        return whole.cast;
    }

    private Cast cast() {
        if (hall.cast == null) {
            throw new IllegalStateException("no run was begun");
        }
        return hall.cast;
    }

    private Cast castWith(int role) {
        Cast cast = hall.cast;
        if (cast == null || !hasBit(cast.standing, role)) {
            throw new IndexOutOfBoundsException("the role does not stand in the run");
        }
        return cast;
    }

    private int lettersOf(int from, int to) {
        checkRange(from, ROLES);
        checkRange(to, ROLES);
        return cell(hall.queues, queueNumber(from, to));
    }

    /** Parts that nobody has any more, now that a whole is replaced, let go of their room. */
    private void keepWhole(int whole, Whole found) {
        hall.keepWhole(whole, found);
        cutter.letGo();
        hall.holdParts();
        for (int image = 0; image < IMAGES; image++) {
            Hall copy = imageAt(image);
            if (copy != null) {
                copy.holdParts();
            }
        }
    }

    private Hall imageAt(int image) {
        return image >= 0 && image < images.length ? images[image] : null;
    }

    private void keepImage(int image, Hall copy) {
        if (image >= 0 && image < images.length) {
            images[image] = copy;
        }
    }

    // ---- The tape

    private static int bytesIn(int word) {
        int count = 0;
        for (int shift = 24; shift >= 0; shift -= 8) {
            count += ((word >>> shift) & 255) != 0 ? 1 : 0;
        }
        return count;
    }

    private void appendWord(int word) {
        for (int shift = 24; shift >= 0; shift -= 8) {
            int letter = (word >>> shift) & 255;
            if (letter != 0) {
                appendByte(letter);
            }
        }
    }

    private void appendByte(int letter) {
        if (tapeLength < TAPE_LIMIT) {
            setCell(tape, tapeLength, letter);
            tapeLength++;
        }
    }

    private static String exampleText(int which) {
        switch (which) {
            case 0:
                return EXAMPLE_0;
            case 1:
                return EXAMPLE_1;
            case 2:
                return EXAMPLE_2;
            case 3:
                return EXAMPLE_3;
            default:
                return EXAMPLE_4;
        }
    }

    // ---- Small helpers: cells of rows, sets of bits, queues

    private static int cell(int[] row, int index) {
        return row != null && index >= 0 && index < row.length ? row[index] : NONE;
    }

    private static void setCell(int[] row, int index, int value) {
        if (row != null && index >= 0 && index < row.length) {
            row[index] = value;
        }
    }

    private static boolean hasBit(int set, int index) {
        return index >= 0 && index < 31 && ((set >> index) & 1) != 0;
    }

    /** The number of the only role in a set; NONE if there is none, or more than one. */
    private static int onlyBit(int set) {
        for (int role = 0; role < ROLES; role++) {
            if (set == 1 << role) {
                return role;
            }
        }
        return NONE;
    }

    /** Which column stands for a kind, where each kind of a set has one. */
    private static int columnOf(int kinds, int kind) {
        return Integer.bitCount(kinds & ((1 << kind) - 1));
    }

    /** The set of places that has just this one. */
    private static long placeBit(int place) {
        return place >= 0 && place < PLACE_LIMIT ? 1L << place : 0;
    }

    private static boolean hasPlace(long set, int place) {
        return (set & placeBit(place)) != 0;
    }

    private static int lowestPlace(long set) {
        int place = 0;
        while (place < PLACE_LIMIT && !hasPlace(set, place)) {
            place++;
        }
        return place;
    }

    private static long setAt(long[] sets, int index) {
        return index >= 0 && index < sets.length ? sets[index] : 0;
    }

    private static void putSet(long[] sets, int index, long set) {
        if (index >= 0 && index < sets.length) {
            sets[index] = set;
        }
    }

    private static int[] wider(int[] row, int atLeast) {
        int length = Math.max(atLeast, 2 * row.length);
        return atLeast > row.length ? Arrays.copyOf(row, length) : row;
    }

    private static long[] wider(long[] row, int atLeast) {
        int length = Math.max(atLeast, 2 * row.length);
        return atLeast > row.length ? Arrays.copyOf(row, length) : row;
    }

    /** A queue is a number: four bits for each letter (its kind and 1), the first one lowest. */
    private static int lettersIn(int queue) {
        int count = 0;
        for (int place = 0; place < BOUNDS && (queue >>> (4 * place)) > 0; place++) {
            count++;
        }
        return count;
    }

    private static int kindIn(int queue, int place) {
        return ((queue >>> (4 * place)) & 15) - 1;
    }

    private static int withLetter(int queue, int kind) {
        return queue | ((kind + 1) << (4 * lettersIn(queue)));
    }

    private static int withoutFirst(int queue) {
        return queue >>> 4;
    }

    private static int queueNumber(int from, int to) {
        return from < 0 || to < 0 ? NONE : ROLES * from + to;
    }

    // ---- What never changes: wholes, parts, casts, findings

    /** A whole: a row of cells for each place; what its cutting gave is kept with it. */
    private static final class Whole {
        private static final int SORT = 0;
        private static final int FROM = 1;
        private static final int TO = 2;
        private static final int KIND_SET = 3;
        private static final int BEHIND = 4;
        private static final int WIDTH = BEHIND + KINDS;

        private final int count;
        private final int[] cells;
        private final int standing;
        /** The role and the two places that show why it cannot be cut. */
        private final int[] clash = {NONE, NONE, NONE};
        private final Part[] parts = new Part[ROLES];
        private boolean tried;
        private Cast cast;

        Whole(int count, int[] cells) {
            this.count = count;
            this.cells = cells;
            int found = 0;
            for (int place = 0; place < count; place++) {
                if (cell(cells, WIDTH * place + SORT) == LETTER) {
                    found |= 1 << cell(cells, WIDTH * place + FROM);
                    found |= 1 << cell(cells, WIDTH * place + TO);
                }
            }
            standing = found;
        }

        static Whole justEnd() {
            int[] cells = new int[WIDTH];
            clearPlace(cells, 0);
            return new Whole(1, cells);
        }

        /** Makes a place of a row END, without next places. */
        static void clearPlace(int[] cells, int place) {
            for (int column = 0; column < WIDTH; column++) {
                boolean number = column == SORT || column == KIND_SET;
                setCell(cells, WIDTH * place + column, number ? 0 : NONE);
            }
        }

        int tells(int place, int what) {
            boolean told = place >= 0 && place < count && what >= 0 && what < WIDTH;
            return told && WIDTH * count <= cells.length ? cells[WIDTH * place + what] : NONE;
        }

        /** The next place for a kind; of BESIDE, the left one for 0 and the right one for 1. */
        int behind(int place, int kind) {
            return kind >= 0 ? tells(place, BEHIND + kind) : NONE;
        }

        Part partOf(int role) {
            return role >= 0 && role < parts.length ? parts[role] : null;
        }

        void keepPart(int role, Part part) {
            if (role >= 0 && role < parts.length) {
                parts[role] = part;
            }
        }

        void holdParts() {
            for (int role = 0; role < parts.length; role++) {
                if (parts[role] != null) {
                    parts[role].hold();
                }
            }
        }
    }

    /**
     * A part of a role: a row of cells for each state, its mark (sort, other role and kinds) and a next state
     * for each kind of the part. It knows the places of its whole, too, of which its states are sets.
     */
    private static final class Part {
        private static final int SORT = 0;
        private static final int OTHER = 1;
        private static final int KIND_SET = 2;

        private final int role;
        private final int count;
        /** All kinds that come in the part, and how many cells each state has. */
        private final int kinds;
        private final int width;
        private final int others;
        /** There may be more cells than states need: the room was another part's before. */
        private final int[] cells;
        /** The set of places of the first state; the marks of places, and the sets that are behind them. */
        private final long first;
        private final int[] placeMarks;
        private final long[] placeSteps;
        /** A mirror has the cells of the part that it mirrors, and tells them the other way round. */
        private final boolean isMirror;
        private final int mirroredRole;
        private Part mirrored;
        /** Whether somebody had the part when that was looked at last. */
        private boolean held = true;

        Part(int role, int kinds, int count, int[] cells, long first, int[] placeMarks, long[] placeSteps) {
            this.role = role;
            this.count = count;
            this.kinds = kinds;
            this.cells = cells;
            this.first = first;
            this.placeMarks = placeMarks;
            this.placeSteps = placeSteps;
            width = 1 + Integer.bitCount(kinds);
            isMirror = false;
            mirroredRole = NONE;
            int found = 0;
            for (int state = 0; state < count; state++) {
                int other = otherIn(cell(cells, width * state));
                found |= other == NONE ? 0 : 1 << other;
            }
            others = found;
        }

        /** The mirror of a part that has just one other role; all but the marks is the same. */
        private Part(Part that) {
            role = that.onlyOther();
            count = that.count;
            kinds = that.kinds;
            width = that.width;
            others = 1 << that.role;
            cells = that.cells;
            first = that.first;
            placeMarks = that.placeMarks;
            placeSteps = that.placeSteps;
            isMirror = true;
            mirroredRole = that.role;
            mirrored = that;
        }

        static Part justEnd(int role) {
            int[] mark = {markOf(END, NONE, 0)};
            return new Part(role, 0, 1, mark, 1L, mark, new long[0]);
        }

        /** A mark has the sort in its lowest four bits, then the other role and 1, then the kinds. */
        static int markOf(int sort, int other, int kinds) {
            return kinds << 8 | (other + 1) << 4 | sort;
        }

        static int sortIn(int mark) {
            return mark & 15;
        }

        static int otherIn(int mark) {
            return ((mark >>> 4) & 15) - 1;
        }

        static int kindsIn(int mark) {
            return mark >>> 8;
        }

        int markAt(int state) {
            return markOf(tells(state, SORT), tells(state, OTHER), tells(state, KIND_SET));
        }

        int tells(int state, int what) {
            if (state < 0 || state >= count || width * state >= cells.length) {
                return NONE;
            }
            int mark = cells[width * state];
            int sort = mark & 15;
            boolean turned = isMirror && sort != END;
            if (what == SORT) {
                return turned ? SEND + HEAR - sort : sort;
            }
            if (what == OTHER) {
                return turned ? mirroredRole : ((mark >>> 4) & 15) - 1;
            }
            return mark >>> 8;
        }

        int behind(int state, int kind) {
            if (state < 0 || state >= count || !hasBit(kinds, kind)) {
                return NONE;
            }
            return cell(cells, width * state + 1 + columnOf(kinds, kind));
        }

        /** All that is behind some places for a kind; the steps have a set for each place and each of the kinds. */
        static long placesBehind(long places, long[] steps, int kinds, int kind) {
            long together = 0;
            int columns = Integer.bitCount(kinds);
            int column = columnOf(kinds, kind);
            if (!hasBit(kinds, kind)) {
                return 0;
            }
            for (int place = 0; place < PLACE_LIMIT && places >>> place != 0; place++) {
                together |= hasPlace(places, place) ? setAt(steps, columns * place + column) : 0;
            }
            return together;
        }

        int onlyOther() {
            return onlyBit(others);
        }

        /** The mirror of a part that has just one other role. */
        Part turned() {
            if (mirrored == null) {
                mirrored = new Part(this);
            }
            return mirrored;
        }

        /** Somebody has the part; a mirror has its cells from the part that it mirrors. */
        void hold() {
            held = true;
            if (mirrored != null) {
                mirrored.held = true;
            }
        }

        boolean sameAs(Part that) {
            boolean same = that != null && that.role == role && that.count == count;
            for (int state = 0; same && state < count; state++) {
                same = markAt(state) == that.markAt(state);
                for (int kind = 0; kind < KINDS; kind++) {
                    same = same && behind(state, kind) == that.behind(state, kind);
                }
            }
            return same;
        }
    }

    /** The parts that run together, one for each role; a role outside the run is just END. */
    private static final class Cast {
        private final int standing;
        private final Part[] parts = new Part[ROLES];
        private final Findings[] found = new Findings[BOUNDS + 1];

        Cast(int standing, Part[] players) {
            this.standing = standing;
            for (int role = 0; role < ROLES; role++) {
                parts[role] = role < players.length ? players[role] : null;
            }
        }

        Findings findingsOf(int bound) {
            return bound >= 0 && bound < found.length ? found[bound] : null;
        }

        void keepFindings(int bound, Findings findings) {
            if (bound >= 0 && bound < found.length) {
                found[bound] = findings;
            }
        }

        Cast with(Part given) {
            Cast changed = new Cast(standing, parts);
            if (given.role >= 0 && given.role < ROLES) {
                changed.parts[given.role] = given;
            }
            return changed;
        }

        private Part partOf(int role) {
            return role >= 0 && role < ROLES ? parts[role] : null;
        }

        void holdParts() {
            for (int role = 0; role < ROLES; role++) {
                if (parts[role] != null) {
                    parts[role].hold();
                }
            }
        }

        int tells(int role, int state, int what) {
            Part part = partOf(role);
            return part == null ? NONE : part.tells(state, what);
        }

        int sortOf(int role, int state) {
            return tells(role, state, Part.SORT);
        }

        int otherOf(int role, int state) {
            return tells(role, state, Part.OTHER);
        }

        int kindsOf(int role, int state) {
            return tells(role, state, Part.KIND_SET);
        }

        int behind(int role, int state, int kind) {
            Part part = partOf(role);
            return part == null ? NONE : part.behind(state, kind);
        }

        int othersOf(int role) {
            Part part = partOf(role);
            return part == null ? 0 : part.others;
        }

        boolean isOver(int[] states) {
            boolean over = true;
            for (int role = 0; role < ROLES; role++) {
                over = over && sortOf(role, cell(states, role)) == END;
            }
            return over;
        }

        /** Whether a role sends to the one that it waits for, and that one hears from it. */
        boolean meets(int role, int[] states) {
            int state = cell(states, role);
            int other = otherOf(role, state);
            int otherState = cell(states, other);
            return sortOf(role, state) == SEND && sortOf(other, otherState) == HEAR
                    && otherOf(other, otherState) == role;
        }
    }

    /** What looking through all runs found; nothing of it holds if there are too many. */
    private static final class Findings {
        private int count;
        private int stuck = NONE;
        private int unknown = NONE;
        private int left = NONE;
        private boolean hindered;
        private final int[] ring = new int[ROLES];
        private int waiting;

        int answer(int what) {
            if (count == NONE) {
                return NONE;
            }
            switch (what) {
                case 0:
                    return count;
                case 1:
                    return stuck;
                case 2:
                    return unknown;
                case 3:
                    return left;
                default:
                    return hindered ? 1 : 0;
            }
        }

        int ringLength() {
            return count == NONE ? 0 : waiting;
        }

        boolean isBad() {
            return count != NONE && (stuck != NONE || unknown != NONE || left != NONE);
        }
    }

    // ---- What an image keeps

    /** Wholes, slots, the run that is begun, and the monitor. */
    private static final class Hall {
        private final Whole[] wholes = new Whole[WHOLES];
        private final Part[] slots = new Part[SLOTS];
        private Cast cast;
        private int bound;
        private final int[] states = new int[ROLES];
        private final int[] queues = new int[ROLES * ROLES];
        private int sent;
        private final int[] watched = new int[ROLES];
        private int right;
        private int fault = NONE;

        Hall() {
            Whole nothing = Whole.justEnd();
            Part nobody = Part.justEnd(0);
            for (int whole = 0; whole < WHOLES; whole++) {
                wholes[whole] = nothing;
            }
            for (int slot = 0; slot < SLOTS; slot++) {
                slots[slot] = nobody;
            }
        }

        void copyFrom(Hall that) {
            for (int whole = 0; whole < WHOLES; whole++) {
                wholes[whole] = that.wholes[whole];
            }
            for (int slot = 0; slot < SLOTS; slot++) {
                slots[slot] = that.slots[slot];
            }
            cast = that.cast;
            bound = that.bound;
            System.arraycopy(that.states, 0, states, 0, ROLES);
            System.arraycopy(that.queues, 0, queues, 0, ROLES * ROLES);
            sent = that.sent;
            System.arraycopy(that.watched, 0, watched, 0, ROLES);
            right = that.right;
            fault = that.fault;
        }

        /** The whole of a number that was looked at before. */
        Whole wholeIn(int whole) {
            return wholes[whole >= 0 && whole < WHOLES ? whole : 0];
        }

        void keepWhole(int whole, Whole found) {
            if (whole >= 0 && whole < WHOLES) {
                wholes[whole] = found;
            }
        }

        Part partIn(int slot) {
            return slots[slot >= 0 && slot < SLOTS ? slot : 0];
        }

        void keepPart(int slot, Part found) {
            if (slot >= 0 && slot < SLOTS) {
                slots[slot] = found;
            }
        }

        void holdParts() {
            for (int whole = 0; whole < WHOLES; whole++) {
                wholeIn(whole).holdParts();
            }
            for (int slot = 0; slot < SLOTS; slot++) {
                partIn(slot).hold();
            }
            if (cast != null) {
                cast.holdParts();
            }
        }

        int placesTogether() {
            int sum = 0;
            for (int whole = 0; whole < WHOLES; whole++) {
                sum += wholeIn(whole).count;
            }
            return sum;
        }

        void beginRun(Cast players, int most) {
            bound = most;
            sent = 0;
            Arrays.fill(queues, 0);
            changeCast(players);
        }

        /** Only before anything is sent: all roles stand at their first states then. */
        void changeCast(Cast players) {
            cast = players;
            Arrays.fill(states, 0);
            Arrays.fill(watched, 0);
            right = 0;
            fault = NONE;
        }

        boolean isLetterLeft() {
            boolean left = false;
            for (int queue = 0; queue < queues.length; queue++) {
                left = left || queues[queue] != 0;
            }
            return left;
        }

        boolean canGoOn(int role) {
            if (cast == null) {
                return false;
            }
            int state = cell(states, role);
            int other = cast.otherOf(role, state);
            if (cast.sortOf(role, state) == SEND) {
                return lettersIn(cell(queues, queueNumber(role, other))) < bound;
            }
            int letters = cell(queues, queueNumber(other, role));
            return cast.sortOf(role, state) == HEAR && lettersIn(letters) > 0
                    && hasBit(cast.kindsOf(role, state), kindIn(letters, 0));
        }

        boolean watch(int from, int to, int kind) {
            if (cast == null || fault != NONE) {
                return false;
            }
            int sender = cell(watched, from);
            int receiver = cell(watched, to);
            if (cast.sortOf(from, sender) != SEND || cast.otherOf(from, sender) != to
                    || !hasBit(cast.kindsOf(from, sender), kind)) {
                fault = from;
                return false;
            }
            if (cast.sortOf(to, receiver) != HEAR || cast.otherOf(to, receiver) != from
                    || !hasBit(cast.kindsOf(to, receiver), kind)) {
                fault = to;
                return false;
            }
            setCell(watched, from, cast.behind(from, sender, kind));
            setCell(watched, to, cast.behind(to, receiver, kind));
            right++;
            return true;
        }
    }

    // ---- The workers

    /** Rows of numbers, each kept once by its key (its first cells), numbered as they come. */
    private static final class Rows {
        private static final int FIRST_ROOM = 64;
        private static final int MIXER = 0x9E3779B1;

        private int key;
        private int width;
        private int limit;
        private int count;
        private int[] cells = new int[FIRST_ROOM];
        /** Numbers of rows, and 1, by their keys; 0 where none is. */
        private int[] heads = new int[FIRST_ROOM];
        /** How many of the heads are in use: a power of two. */
        private int spread;

        void start(int keyWidth, int rowWidth, int most) {
            key = keyWidth;
            width = rowWidth;
            limit = most;
            count = 0;
            clearHeads(FIRST_ROOM);
        }

        private void clearHeads(int length) {
            spread = length;
            if (length > heads.length) {
                heads = new int[length];
            }
            for (int head = 0; head < length && head < heads.length; head++) {
                heads[head] = 0;
            }
        }

        /** The number of the row with the probe's key, kept now if none was; NONE if all is full. */
        int numberOf(int[] probe) {
            if (probe == null || probe.length < width) {
                return NONE;
            }
            int head = headOf(probe, 0);
            if (cell(heads, head) > 0) {
                return cell(heads, head) - 1;
            }
            if (count >= limit || head == NONE) {
                return NONE;
            }
            cells = wider(cells, width * (count + 1));
            System.arraycopy(probe, 0, cells, width * count, width);
            count++;
            setCell(heads, head, count);
            if (2 * count > spread) {
                widenHeads();
            }
            return count - 1;
        }

        int at(int number, int column) {
            return number >= 0 && number < count ? cell(cells, width * number + column) : NONE;
        }

        void copyRow(int number, int[] to) {
            for (int column = 0; column < width; column++) {
                setCell(to, column, at(number, column));
            }
        }

        /** Where the key that begins at a place of a row stands in the heads, or would stand. */
        private int headOf(int[] row, int from) {
            if (from < 0 || from + key > row.length || spread > heads.length) {
                return NONE;
            }
            int hash = 17;
            for (int column = 0; column < key; column++) {
                hash = 31 * hash + row[from + column];
            }
            hash *= MIXER;
            hash ^= hash >>> 15;
            for (int tries = 0; tries < spread; tries++) {
                int head = (hash + tries) & (spread - 1);
                int base = width * (heads[head] - 1);
                boolean same = base >= 0 && base + key <= cells.length;
                for (int column = 0; same && column < key; column++) {
                    same = cells[base + column] == row[from + column];
                }
                if (base < 0 || same) {
                    return head;
                }
            }
            return NONE;
        }

        private void widenHeads() {
            clearHeads(2 * spread);
            for (int number = 0; number < count; number++) {
                setCell(heads, headOf(cells, width * number), number + 1);
            }
        }
    }

    /** Reads a text: drafts of the places as they are met, then numbered as they are come to. */
    private static final class Reader {
        private static final int TEXT_END = 0;
        private static final int NO_TOKEN = 1;
        private static final int OTHER_WORD = 2;
        private static final int ROLE = 3;
        private static final int NAME = 4;
        private static final int END_WORD = 5;
        private static final int LOOP_WORD = 6;
        private static final int KIND = 7;
        private static final int SIGN = 8;

        private static final int NAMES = 3;
        private static final int FAILED = -1;
        /** The place of a loop that is not open, and of one behind which no ">" has come. */
        private static final int CLOSED = -2;
        private static final int BARE = -3;

        /** The tokens of the text: what each one is, which one of these, where it begins. */
        private final int[] tokens = new int[TAPE_LIMIT + 1];
        private final int[] values = new int[TAPE_LIMIT + 1];
        private final int[] starts = new int[TAPE_LIMIT + 1];
        private int now;
        private int token;
        private int value;
        private int error = NONE;

        private final int[] cells = new int[Whole.WIDTH * PLACE_LIMIT];
        private int drafts;
        private final int[] loops = new int[NAMES];
        private int seen;
        private int barred;
        private final int[] order = new int[PLACE_LIMIT];
        private final int[] numbers = new int[PLACE_LIMIT];

        /** The whole that the text tells, or null with the error's position. */
        Whole parse(int[] bytes, int count) {
            findTokens(bytes, count);
            now = -1;
            error = NONE;
            drafts = 1;
            Whole.clearPlace(cells, 0);
            Arrays.fill(loops, CLOSED);
            barred = 0;
            seen = 0;
            advance();
            int first = whole(0);
            if (first != FAILED && token != TEXT_END) {
                fail();
            }
            return error == NONE && first != FAILED ? numbered(first) : null;
        }

        private int fail() {
            if (error == NONE) {
                error = cell(starts, now);
            }
            return FAILED;
        }

        private int whole(int open) {
            int first = value;
            switch (token) {
                case END_WORD:
                    advance();
                    return 0;
                case NAME:
                    if (cell(loops, first) < 0) {
                        return fail();
                    }
                    advance();
                    return cell(loops, first);
                case LOOP_WORD:
                    return open < OPEN_LIMIT ? loop(open + 1) : fail();
                case ROLE:
                    return letterPlace(open);
                default:
                    return isSign('(') && open < OPEN_LIMIT ? beside(open + 1) : fail();
            }
        }

        private int loop(int open) {
            advance();
            int name = value;
            if (token != NAME || cell(loops, name) != CLOSED) {
                return fail();
            }
            setCell(loops, name, BARE);
            advance();
            int place = whole(open);
            setCell(loops, name, CLOSED);
            return place;
        }

        private int letterPlace(int open) {
            int from = value;
            if (!isFreeRole()) {
                return fail();
            }
            advance();
            if (!isSign('>')) {
                return fail();
            }
            int place = draft(LETTER);
            for (int name = 0; name < NAMES; name++) {
                if (cell(loops, name) == BARE) {
                    setCell(loops, name, place);
                }
            }
            advance();
            int to = value;
            if (!isFreeRole() || to == from) {
                return fail();
            }
            seen |= (1 << from) | (1 << to);
            setCell(cells, Whole.WIDTH * place + Whole.FROM, from);
            setCell(cells, Whole.WIDTH * place + Whole.TO, to);
            advance();
            if (!isSign('{') || open >= OPEN_LIMIT || place == FAILED) {
                return fail();
            }
            return branches(place, open + 1);
        }

        private int branches(int place, int open) {
            int kinds = 0;
            for (int branch = 0; branch < KINDS; branch++) {
                advance();
                int kind = value;
                if (token != KIND || hasBit(kinds, kind)) {
                    return fail();
                }
                kinds |= 1 << kind;
                advance();
                if (!isSign(':')) {
                    return fail();
                }
                advance();
                int behindKind = whole(open);
                if (behindKind == FAILED) {
                    return FAILED;
                }
                setCell(cells, Whole.WIDTH * place + Whole.BEHIND + kind, behindKind);
                if (!isSign(',')) {
                    break;
                }
            }
            return closed(place, kinds);
        }

        /** Behind ten branches a "," leads to a KIND that stands already, or to no KIND at all. */
        private int closed(int place, int kinds) {
            if (isSign(',')) {
                advance();
                return fail();
            }
            if (!isSign('}')) {
                return fail();
            }
            setCell(cells, Whole.WIDTH * place + Whole.KIND_SET, kinds);
            advance();
            return place;
        }

        private int beside(int open) {
            int outsideX = cell(loops, 0);
            int outsideY = cell(loops, 1);
            int outsideZ = cell(loops, 2);
            int outsideSeen = seen;
            int outsideBarred = barred;
            int place = draft(BESIDE);
            Arrays.fill(loops, CLOSED);
            seen = 0;
            advance();
            int left = whole(open);
            if (left == FAILED || !isSign('|')) {
                return fail();
            }
            barred |= seen;
            advance();
            int right = whole(open);
            if (right == FAILED || !isSign(')') || place == FAILED) {
                return fail();
            }
            advance();
            barred = outsideBarred;
            seen |= outsideSeen;
            setCell(loops, 0, outsideX);
            setCell(loops, 1, outsideY);
            setCell(loops, 2, outsideZ);
            setCell(cells, Whole.WIDTH * place + Whole.BEHIND, left);
            setCell(cells, Whole.WIDTH * place + Whole.BEHIND + 1, right);
            return place;
        }

        private int draft(int sort) {
            if (drafts >= PLACE_LIMIT) {
                return FAILED;
            }
            Whole.clearPlace(cells, drafts);
            setCell(cells, Whole.WIDTH * drafts + Whole.SORT, sort);
            drafts++;
            return drafts - 1;
        }

        private boolean isFreeRole() {
            return token == ROLE && !hasBit(barred, value);
        }

        private boolean isSign(int sign) {
            return token == SIGN && value == sign;
        }

        private void advance() {
            now = Math.min(now + 1, TAPE_LIMIT);
            token = cell(tokens, now);
            value = cell(values, now);
        }

        /** The last token is the text's end. */
        private void findTokens(int[] text, int length) {
            int count = 0;
            int at = 0;
            while (at < length && count < TAPE_LIMIT) {
                int letter = cell(text, at);
                int behind = at + 1;
                while (isLetterByte(letter) && behind < length && isLetterByte(cell(text, behind))) {
                    behind++;
                }
                if (letter != ' ' && letter != 10) {
                    int letterBehind = behind < length ? cell(text, behind) : NONE;
                    setCell(starts, count, at);
                    setCell(tokens, count, tokenOf(text, at, behind - at, letterBehind));
                    setCell(values, count, valueOf(letter));
                    count++;
                }
                at = behind;
            }
            setCell(starts, count, length);
            setCell(tokens, count, TEXT_END);
            setCell(values, count, NONE);
        }

        private static int tokenOf(int[] text, int at, int length, int letterBehind) {
            int letter = cell(text, at);
            if (isDigitByte(letter)) {
                return isDigitByte(letterBehind) ? NO_TOKEN : KIND;
            }
            if (!isLetterByte(letter)) {
                return isSignByte(letter) ? SIGN : NO_TOKEN;
            }
            if (length == 1 && letter <= 'f') {
                return ROLE;
            }
            if (length == 1 && letter >= 'x') {
                return NAME;
            }
            if (length == 3 && letter == 'e' && cell(text, at + 1) == 'n'
                    && cell(text, at + 2) == 'd') {
                return END_WORD;
            }
            return length == 4 && letter == 'l' && cell(text, at + 1) == 'o'
                    && cell(text, at + 2) == 'o' && cell(text, at + 3) == 'p'
                    ? LOOP_WORD : OTHER_WORD;
        }

        /** The number of a role, a name or a kind, as the token is one; a sign tells itself. */
        private static int valueOf(int letter) {
            if (isDigitByte(letter)) {
                return letter - '0';
            }
            if (isLetterByte(letter)) {
                return letter >= 'x' ? letter - 'x' : letter - 'a';
            }
            return letter;
        }

        private static boolean isLetterByte(int letter) {
            return letter >= 'a' && letter <= 'z';
        }

        private static boolean isDigitByte(int letter) {
            return letter >= '0' && letter <= '9';
        }

        private static boolean isSignByte(int letter) {
            return letter == '>' || letter == '{' || letter == '}' || letter == ',' || letter == ':'
                    || letter == '(' || letter == ')' || letter == '|';
        }

        /** Numbers the drafts as they are come to from the first one. */
        private Whole numbered(int first) {
            Arrays.fill(numbers, NONE);
            int count = 0;
            count = come(first, count);
            for (int place = 0; place < count && place < PLACE_LIMIT; place++) {
                int draft = cell(order, place);
                for (int kind = 0; kind < KINDS; kind++) {
                    count = come(cell(cells, Whole.WIDTH * draft + Whole.BEHIND + kind), count);
                }
            }
            int[] found = new int[Whole.WIDTH * count];
            for (int place = 0; place < count; place++) {
                int draft = cell(order, place);
                for (int column = 0; column < Whole.WIDTH; column++) {
                    int told = cell(cells, Whole.WIDTH * draft + column);
                    boolean isNext = column >= Whole.BEHIND && told != NONE;
                    int kept = isNext ? cell(numbers, told) : told;
                    setCell(found, Whole.WIDTH * place + column, kept);
                }
            }
            return new Whole(count, found);
        }

        private int come(int draft, int count) {
            if (draft < 0 || cell(numbers, draft) != NONE) {
                return count;
            }
            setCell(numbers, draft, count);
            setCell(order, count, draft);
            return count + 1;
        }
    }

    /** Cuts wholes: states are sets of places, kept as two numbers each. */
    private static final class Cutter {
        /** Of so many parts it is known whether their room may be used again. */
        private static final int MADE_LIMIT = 256;

        private final Rows sets = new Rows();
        private final int[] probe = new int[2];
        private final long[] reach = new long[PLACE_LIMIT];
        private final long[] shown = new long[PLACE_LIMIT];
        private final Part[] nobody = new Part[ROLES];
        private final Part[] made = new Part[MADE_LIMIT];
        /** The cells of the part that is cut, and what is behind its places. */
        private int[] cells = new int[PLACE_LIMIT];
        private final int[] placeMarks = new int[PLACE_LIMIT];
        private final long[] placeSteps = new long[PLACE_LIMIT * KINDS];
        /** All kinds of the role's LETTERs, and how many cells each state has. */
        private int kinds;
        private int width;
        private Whole whole;
        private int role;
        private int count;
        /** The role's LETTERs. */
        private long own;
        /** The places that count as END, and the one that stands for them. */
        private long ends;
        private int end;
        private int clashFirst;
        private int clashSecond;

        Cutter() {
            for (int one = 0; one < ROLES; one++) {
                nobody[one] = Part.justEnd(one);
            }
        }

        /** Nobody has any part, as long as nobody tells that it does. */
        void letGo() {
            for (int number = 0; number < MADE_LIMIT; number++) {
                if (made[number] != null) {
                    made[number].held = false;
                }
            }
        }

        /** Cuts a whole for all roles, once; a cast is kept if it can be for each. */
        void cutAll(Whole asked) {
            if (asked.tried) {
                return;
            }
            asked.tried = true;
            boolean all = true;
            for (int one = 0; one < ROLES; one++) {
                boolean stands = hasBit(asked.standing, one);
                Part found = stands ? partFor(asked, one) : nobody[one];
                asked.keepPart(one, found);
                if (found == null && all) {
                    all = false;
                    setCell(asked.clash, 0, one);
                    setCell(asked.clash, 1, clashFirst);
                    setCell(asked.clash, 2, clashSecond);
                }
            }
            if (all) {
                asked.cast = new Cast(asked.standing, asked.parts);
            }
        }

        private Part partFor(Whole asked, int one) {
            whole = asked;
            role = one;
            count = Math.min(asked.count, PLACE_LIMIT);
            clashFirst = NONE;
            clashSecond = NONE;
            findReach();
            findEnds();
            findShown();
            findSteps();
            sets.start(2, 2, STATE_LIMIT);
            sets.numberOf(probeOf(setAt(shown, 0)));
            for (int state = 0; state < sets.count && state < STATE_LIMIT; state++) {
                long set = pair(sets.at(state, 0), sets.at(state, 1));
                if (!goTogether(set) || !makeState(state, set)) {
                    return null;
                }
            }
            return madePart();
        }

        /** The part of which the cells were written, in the room of one that nobody has, if there is one. */
        private Part madePart() {
            int length = width * sets.count;
            int number = placeToKeep(length);
            Part before = number == NONE ? null : made[number];
            int[] room = before == null ? Arrays.copyOf(cells, length) : before.cells;
            if (before != null && length <= cells.length && length <= room.length) {
                System.arraycopy(cells, 0, room, 0, length);
            }
            Part part = new Part(role, kinds, sets.count, room, setAt(shown, 0),
                    Arrays.copyOf(placeMarks, count), Arrays.copyOf(placeSteps, (width - 1) * count));
            if (number != NONE) {
                made[number] = part;
            }
            return part;
        }

        /** Where a part is that nobody has, with room enough but not far too much; else a place that is free. */
        private int placeToKeep(int length) {
            int best = NONE;
            int least = 2 * length + PLACE_LIMIT;
            for (int number = 0; number < MADE_LIMIT; number++) {
                Part part = made[number];
                if (part == null) {
                    return best == NONE ? number : best;
                }
                if (!part.held && part.cells.length >= length && part.cells.length < least) {
                    best = number;
                    least = part.cells.length;
                }
            }
            return best;
        }

        /** For each place, the places that can be come to from it, itself among them. */
        private void findReach() {
            for (int place = 0; place < count; place++) {
                putSet(reach, place, placeBit(place));
            }
            boolean grown = true;
            for (int round = 0; grown && round <= PLACE_LIMIT * PLACE_LIMIT; round++) {
                grown = false;
                for (int place = count - 1; place >= 0; place--) {
                    long before = setAt(reach, place);
                    putSet(reach, place, before | nextSets(reach, place));
                    grown = grown || setAt(reach, place) != before;
                }
            }
        }

        private void findEnds() {
            long trueEnds = 0;
            own = 0;
            for (int place = 0; place < count; place++) {
                boolean takesPart = whole.tells(place, Whole.FROM) == role
                        || whole.tells(place, Whole.TO) == role;
                own |= takesPart ? placeBit(place) : 0;
                trueEnds |= whole.tells(place, Whole.SORT) == END ? placeBit(place) : 0;
            }
            ends = trueEnds;
            for (int place = 0; place < count; place++) {
                boolean beside = whole.tells(place, Whole.SORT) == BESIDE;
                long wanted = beside ? own : own | trueEnds;
                ends |= (setAt(reach, place) & wanted) == 0 ? placeBit(place) : 0;
            }
            end = lowestPlace(ends);
        }

        /** For each place, the places that are left of it behind the replacing. */
        private void findShown() {
            for (int place = 0; place < count; place++) {
                long first = hasPlace(ends, place) ? placeBit(end) : 0;
                putSet(shown, place, hasPlace(own, place) ? placeBit(place) : first);
            }
            boolean grown = true;
            for (int round = 0; grown && round <= PLACE_LIMIT * PLACE_LIMIT; round++) {
                grown = false;
                for (int place = count - 1; place >= 0; place--) {
                    long before = setAt(shown, place);
                    putSet(shown, place, before | replaced(place));
                    grown = grown || setAt(shown, place) != before;
                }
            }
        }

        private long replaced(int place) {
            if (hasPlace(ends | own, place)) {
                return 0;
            }
            if (whole.tells(place, Whole.SORT) == BESIDE) {
                int left = whole.behind(place, 0);
                boolean standsLeft = (setAt(reach, left) & own) != 0;
                return setAt(shown, standsLeft ? left : whole.behind(place, 1));
            }
            return nextSets(shown, place);
        }

        /** For each of the role's LETTERs, its mark and the places that are left of the next ones. */
        private void findSteps() {
            kinds = 0;
            for (int place = 0; place < count; place++) {
                kinds |= hasPlace(own, place) ? whole.tells(place, Whole.KIND_SET) : 0;
            }
            width = 1 + Integer.bitCount(kinds);
            for (int place = 0; place < count; place++) {
                boolean takesPart = hasPlace(own, place);
                setCell(placeMarks, place, takesPart ? markOf(place) : Part.markOf(END, NONE, 0));
                for (int kind = 0; kind < KINDS; kind++) {
                    if (hasBit(kinds, kind)) {
                        int next = takesPart ? whole.behind(place, kind) : NONE;
                        putSet(placeSteps, (width - 1) * place + columnOf(kinds, kind), setAt(shown, next));
                    }
                }
            }
        }

        private int markOf(int place) {
            boolean sends = whole.tells(place, Whole.FROM) == role;
            int other = whole.tells(place, sends ? Whole.TO : Whole.FROM);
            return Part.markOf(sends ? SEND : HEAR, other, whole.tells(place, Whole.KIND_SET));
        }

        private long nextSets(long[] sets, int place) {
            long together = 0;
            for (int kind = 0; kind < KINDS; kind++) {
                together |= setAt(sets, whole.tells(place, Whole.BEHIND + kind));
            }
            return together;
        }

        /** Keeps the first pair of the set that does not go together, if there is one. */
        private boolean goTogether(long set) {
            int first = lowestPlace(set);
            for (int place = first + 1; place < count; place++) {
                if (hasPlace(set, place) && !goTogether(first, place)) {
                    clashFirst = first;
                    clashSecond = place;
                    return false;
                }
            }
            return true;
        }

        /** Going together is the same among any places, so the least one may speak for all. */
        private boolean goTogether(int first, int second) {
            boolean sameSender = whole.tells(first, Whole.FROM) == whole.tells(second, Whole.FROM);
            if (first == end || second == end || !sameSender) {
                return false;
            }
            return whole.tells(first, Whole.FROM) != role
                    || whole.tells(first, Whole.TO) == whole.tells(second, Whole.TO)
                    && whole.tells(first, Whole.KIND_SET) == whole.tells(second, Whole.KIND_SET);
        }

        /** Writes the state of a set whose places go together; false if there is no room. */
        private boolean makeState(int state, long set) {
            int base = width * state;
            cells = wider(cells, base + width);
            int all = 0;
            for (int column = 1; column < width; column++) {
                setCell(cells, base + column, NONE);
            }
            for (int kind = 0; kind < KINDS; kind++) {
                long behind = Part.placesBehind(set, placeSteps, kinds, kind);
                if (behind != 0) {
                    all |= 1 << kind;
                    int number = sets.numberOf(probeOf(behind));
                    if (number == NONE) {
                        return false;
                    }
                    setCell(cells, base + 1 + columnOf(kinds, kind), number);
                }
            }
            int mark = cell(placeMarks, lowestPlace(set));
            setCell(cells, base, Part.markOf(Part.sortIn(mark), Part.otherIn(mark), all));
            return true;
        }

        private int[] probeOf(long set) {
            setCell(probe, 0, (int) set);
            setCell(probe, 1, (int) (set >>> 32));
            return probe;
        }

        private static long pair(int low, int high) {
            return ((long) high << 32) | (low & 0xFFFFFFFFL);
        }
    }

    /**
     * Holds two parts, or two wholes, against one another. Parts are held step by step: one state of the
     * lower part, with all that the same row of kinds leads to in the higher one.
     */
    private static final class Comparer {
        /** How many kinds of the row that shows one search keeps: four bits for each in a long. */
        private static final int KEPT = 16;
        private static final int FIRST_ROOM = 64;
        private static final int DEEPEST = 1 << 30;

        private final Rows rows = new Rows();
        private final int[] probe = new int[KINDS + 2];

        /** The parts that were held last, how long the row is that shows, and its kinds from a place on. */
        private Part one;
        private Part two;
        private int length;
        private int from;
        private long kept;

        /** What is looked at in place of them, null if nothing is; and the cells of folded parts. */
        private Part low;
        private Part high;
        private int[] lowCells = new int[FIRST_ROOM];
        private int[] highCells = new int[FIRST_ROOM];
        private long[] seen = new long[FIRST_ROOM];
        private int seenWords;

        /** What is come to by rows of one length, in their order, and by those that are longer by one. */
        private int size;
        private int[] states = new int[FIRST_ROOM];
        private long[] points = new long[FIRST_ROOM];
        private long[] labels = new long[FIRST_ROOM];
        private int nextSize;
        private int[] nextStates = new int[FIRST_ROOM];
        private long[] nextPoints = new long[FIRST_ROOM];
        private long[] nextLabels = new long[FIRST_ROOM];

        boolean below(Part asked, Part other) {
            hold(asked, other, NONE);
            return asked.role == other.role && length == NONE;
        }

        /** How long the row is that shows that a part is not below another one; NONE if there is none. */
        int rowLength(Part asked, Part other) {
            hold(asked, other, NONE);
            return length;
        }

        /** A kind of the row that the last call of rowLength() found. */
        int rowKind(int place) {
            hold(one, two, place - place % KEPT);
            return (int) (kept >>> (4 * (place - from))) & 15;
        }

        /** Finds the row that shows, and keeps its kinds from a place on (NONE is any place). */
        private void hold(Part asked, Part other, int start) {
            boolean known = asked == one && other == two;
            if (known && (start == NONE || start == from)) {
                return;
            }
            if (!known) {
                one = asked;
                two = other;
                takeSides(asked, other);
            }
            from = Math.max(start, 0);
            kept = 0;
            length = NONE;
            if (low == null || high == null) {
                return;
            }
            if (low.role != high.role) {
                length = 0;
                return;
            }
            startSearch();
            for (int depth = 0; nextSize > 0 && length == NONE && depth < DEEPEST; depth++) {
                goOnFrom(depth);
            }
        }

        /**
         * Of a part that is cut, and no mirror, each place of a set may be looked at alone: all that SEND have
         * the same kinds, and a kind of one that HEARs is one of the set. Two mirrors change sides; the parts of
         * which they are may be of unlike roles, so that their first states already have unlike other roles.
         */
        private void takeSides(Part asked, Part other) {
            low = null;
            high = null;
            if (asked == null || other == null || asked.role != other.role) {
                return;
            }
            if (!other.isMirror) {
                low = asked;
                high = other;
            } else if (asked.isMirror) {
                low = other.turned();
                high = asked.turned();
            } else {
                Part original = other.turned();
                lowCells = wider(lowCells, asked.width * asked.count);
                highCells = wider(highCells, original.width * original.count);
                findClasses(asked);
                low = folded(asked, lowCells);
                findClasses(original);
                high = folded(original, highCells).turned();
            }
        }

        /** The same part with each class of states as one, in a room that is large enough. */
        private Part folded(Part part, int[] room) {
            int width = part.width;
            for (int state = 0; state < part.count; state++) {
                int base = width * cell(states, state);
                setCell(room, base, part.markAt(state));
                for (int column = 1; column < width; column++) {
                    int next = cell(part.cells, width * state + column);
                    setCell(room, base + column, cell(states, next));
                }
            }
            return new Part(part.role, part.kinds, rows.count, room, part.first, part.placeMarks,
                    part.placeSteps);
        }

        /** The class of each state, of those that nothing tells apart: by marks and next classes, until they stay. */
        private void findClasses(Part part) {
            int width = part.width;
            states = wider(states, part.count);
            nextStates = wider(nextStates, part.count);
            Arrays.fill(states, 0);
            int known = 0;
            for (int round = 0; round <= part.count; round++) {
                rows.start(width + 1, width + 1, part.count);
                for (int state = 0; state < part.count; state++) {
                    setCell(probe, 0, part.markAt(state));
                    setCell(probe, width, cell(states, state));
                    for (int column = 1; column < width; column++) {
                        int next = cell(part.cells, width * state + column);
                        setCell(probe, column, cell(states, next));
                    }
                    setCell(nextStates, state, rows.numberOf(probe));
                }
                int[] coarser = states;
                states = nextStates;
                nextStates = coarser;
                if (rows.count == known) {
                    break;
                }
                known = rows.count;
            }
        }

        private void startSearch() {
            for (int word = 0; word < seenWords; word++) {
                putSet(seen, word, 0L);
            }
            seenWords = 0;
            nextSize = 0;
            keep(0, high.isMirror ? 0 : high.first, 0L);
        }

        /** Looks at the rows of one length: whether one shows, otherwise what those behind them lead to. */
        private void goOnFrom(int depth) {
            swapLevels();
            for (int entry = 0; entry < size; entry++) {
                if (cannotBe(cell(states, entry), setAt(points, entry))) {
                    kept = setAt(labels, entry);
                    length = depth;
                    return;
                }
                goOn(entry, depth);
            }
        }

        private void swapLevels() {
            int[] spareStates = states;
            long[] sparePoints = points;
            long[] spareLabels = labels;
            states = nextStates;
            points = nextPoints;
            labels = nextLabels;
            size = nextSize;
            nextStates = spareStates;
            nextPoints = sparePoints;
            nextLabels = spareLabels;
            nextSize = 0;
        }

        private boolean cannotBe(int state, long point) {
            int mark = low.markAt(state);
            if (high.isMirror) {
                return !mayBeBelow(mark, high.markAt((int) point));
            }
            boolean right = true;
            for (int place = 0; right && place < high.placeMarks.length; place++) {
                right = !hasPlace(point, place) || mayBeBelow(mark, high.placeMarks[place]);
            }
            return !right;
        }

        private static boolean mayBeBelow(int mark, int other) {
            int kinds = Part.kindsIn(mark);
            int otherKinds = Part.kindsIn(other);
            if (Part.sortIn(mark) != Part.sortIn(other) || Part.otherIn(mark) != Part.otherIn(other)) {
                return false;
            }
            return Part.sortIn(mark) == SEND ? (kinds & ~otherKinds) == 0 : (otherKinds & ~kinds) == 0;
        }

        private void goOn(int entry, int depth) {
            int state = cell(states, entry);
            long point = setAt(points, entry);
            long label = setAt(labels, entry);
            for (int kind = 0; kind < KINDS; kind++) {
                int next = low.behind(state, kind);
                boolean labelled = depth >= from && depth < from + KEPT;
                long added = labelled ? (long) kind << (4 * (depth - from)) : 0;
                if (next != NONE && !high.isMirror) {
                    keep(next, Part.placesBehind(point, high.placeSteps, high.kinds, kind), label | added);
                } else if (next != NONE && high.behind((int) point, kind) != NONE) {
                    keep(next, high.behind((int) point, kind), label | added);
                }
            }
        }

        /** Keeps what was not come to before; of places, those that did not come with this state. */
        private void keep(int state, long point, long label) {
            boolean byPlaces = !high.isMirror;
            long fresh = byPlaces ? unseen(state, point) : point;
            long pair = (long) state * high.count + point;
            if (byPlaces ? fresh == 0 : unseen(pair / 64, 1L << (pair % 64)) == 0) {
                return;
            }
            nextStates = wider(nextStates, nextSize + 1);
            nextPoints = wider(nextPoints, nextSize + 1);
            nextLabels = wider(nextLabels, nextSize + 1);
            setCell(nextStates, nextSize, state);
            putSet(nextPoints, nextSize, fresh);
            putSet(nextLabels, nextSize, label);
            nextSize++;
        }

        /** Which bits of a word were not seen before; now they are. */
        private long unseen(long word, long bits) {
            if (word >= SEEN_LIMIT) {
                return 0;
            }
            int index = (int) word;
            seen = wider(seen, index + 1);
            seenWords = Math.max(seenWords, index + 1);
            long fresh = bits & ~setAt(seen, index);
            putSet(seen, index, setAt(seen, index) | bits);
            return fresh;
        }

        boolean alike(Whole whole, Whole other) {
            rows.start(1, 1, PLACE_LIMIT * PLACE_LIMIT);
            addPlaces(0, 0);
            for (int pair = 0; pair < rows.count && pair < PLACE_LIMIT * PLACE_LIMIT; pair++) {
                int place = rows.at(pair, 0) / PLACE_LIMIT;
                int otherPlace = rows.at(pair, 0) % PLACE_LIMIT;
                for (int what = 0; what < Whole.BEHIND; what++) {
                    if (whole.tells(place, what) != other.tells(otherPlace, what)) {
                        return false;
                    }
                }
                for (int kind = 0; kind < KINDS; kind++) {
                    addPlaces(whole.behind(place, kind), other.behind(otherPlace, kind));
                }
            }
            return true;
        }

        private void addPlaces(int place, int other) {
            if (place != NONE && other != NONE) {
                setCell(probe, 0, PLACE_LIMIT * place + other);
                rows.numberOf(probe);
            }
        }
    }

    /** Looks through all runs: configurations are rows of states, used queues and steps. */
    private static final class Explorer {
        private static final int WIDTH = ROLES + ROLES * ROLES + 1;

        private final Rows seen = new Rows();
        private final int[] now = new int[WIDTH];
        private final int[] then = new int[WIDTH];
        /** The column of each queue in a row; NONE for one that no part ever fills. */
        private final int[] columns = new int[ROLES * ROLES];
        private Cast cast;
        private int bound;
        private int stepColumn;
        private Findings found;
        private boolean moved;
        private boolean full;

        /** What is found with a bound; a cast keeps it, as it never changes. */
        Findings findings(Cast players, int most) {
            found = players.findingsOf(most);
            if (found != null) {
                return found;
            }
            found = new Findings();
            cast = players;
            bound = most;
            full = false;
            stepColumn = nameColumns();
            Arrays.fill(then, 0);
            seen.start(stepColumn, stepColumn + 1, CONFIGURATION_LIMIT);
            seen.numberOf(then);
            for (int number = 0; number < seen.count && number < CONFIGURATION_LIMIT; number++) {
                seen.copyRow(number, now);
                lookAtNow();
            }
            found.count = full ? NONE : seen.count;
            players.keepFindings(most, found);
            return found;
        }

        private int nameColumns() {
            int column = ROLES;
            for (int from = 0; from < ROLES; from++) {
                for (int to = 0; to < ROLES; to++) {
                    boolean used = hasBit(cast.othersOf(from), to);
                    setCell(columns, queueNumber(from, to), used ? column : NONE);
                    column += used ? 1 : 0;
                }
            }
            return column;
        }

        private void lookAtNow() {
            int steps = cell(now, stepColumn);
            moved = false;
            for (int role = 0; role < ROLES; role++) {
                int sort = cast.sortOf(role, cell(now, role));
                if (sort == SEND) {
                    trySending(role);
                } else if (sort == HEAR) {
                    tryHearing(role, steps);
                }
            }
            if (cast.isOver(now)) {
                found.left = found.left == NONE && isLetterLeft() ? steps : found.left;
            } else if (!moved && found.stuck == NONE) {
                found.stuck = steps;
                showRing();
            }
        }

        private void trySending(int role) {
            int state = cell(now, role);
            int column = columnOf(role, cast.otherOf(role, state));
            int letters = cell(now, column);
            if (lettersIn(letters) >= bound) {
                found.hindered = true;
                return;
            }
            for (int kind = 0; kind < KINDS; kind++) {
                if (hasBit(cast.kindsOf(role, state), kind)) {
                    moveTo(role, cast.behind(role, state, kind), column, withLetter(letters, kind));
                }
            }
        }

        private void tryHearing(int role, int steps) {
            int state = cell(now, role);
            int column = columnOf(cast.otherOf(role, state), role);
            int letters = column == NONE ? 0 : cell(now, column);
            if (lettersIn(letters) == 0) {
                return;
            }
            int kind = kindIn(letters, 0);
            if (hasBit(cast.kindsOf(role, state), kind)) {
                moveTo(role, cast.behind(role, state, kind), column, withoutFirst(letters));
            } else if (found.unknown == NONE) {
                found.unknown = steps;
            }
        }

        private void moveTo(int role, int state, int column, int letters) {
            moved = true;
            System.arraycopy(now, 0, then, 0, WIDTH);
            setCell(then, role, state);
            setCell(then, column, letters);
            setCell(then, stepColumn, cell(now, stepColumn) + 1);
            if (seen.numberOf(then) == NONE) {
                full = true;
            }
        }

        private int columnOf(int from, int to) {
            return cell(columns, queueNumber(from, to));
        }

        private boolean isLetterLeft() {
            boolean left = false;
            for (int column = ROLES; column < stepColumn; column++) {
                left = left || cell(now, column) != 0;
            }
            return left;
        }

        /** Who waits for whom; a role outside the run is at END, so it does not stand in a ring. */
        private void showRing() {
            int role = 0;
            while (role < ROLES && cast.sortOf(role, cell(now, role)) == END) {
                role++;
            }
            int shown = 0;
            for (int place = 0; place < ROLES; place++) {
                int state = cell(now, role);
                if (role < 0 || hasBit(shown, role) || cast.sortOf(role, state) <= END) {
                    return;
                }
                shown |= 1 << role;
                setCell(found.ring, place, role);
                found.waiting = place + 1;
                role = cast.otherOf(role, state);
            }
        }
    }

    /** Lets the parts of a cast meet without queues: counts rows, makes a whole of the parts. */
    private static final class Weaver {
        private final Rows seen = new Rows();
        private final int[] now = new int[ROLES];
        private final int[] then = new int[ROLES];
        private long[] ways = new long[PLACE_LIMIT];
        private long[] nextWays = new long[PLACE_LIMIT];
        private final int[] cells = new int[Whole.WIDTH * WOVEN_LIMIT];

        long countRows(Cast cast, int length) {
            startWith(MEETING_LIMIT);
            Arrays.fill(nextWays, 0L);
            addWays(0, 1L);
            for (int letters = 1; letters < length; letters++) {
                swapWays();
                goOn(cast);
            }
            return length == 0 ? 1 : lastWays(cast);
        }

        private void swapWays() {
            long[] spare = ways;
            ways = nextWays;
            nextWays = spare;
            Arrays.fill(nextWays, 0L);
        }

        /** One letter more: the ways to each configuration go over to those behind it. */
        private void goOn(Cast cast) {
            int known = seen.count;
            for (int number = 0; number < known; number++) {
                long many = setAt(ways, number);
                seen.copyRow(number, now);
                for (int role = 0; many > 0 && role < ROLES; role++) {
                    if (cast.meets(role, now)) {
                        meet(cast, role, many);
                    }
                }
            }
        }

        private void meet(Cast cast, int role, long many) {
            int kinds = commonKinds(cast, role);
            for (int kind = 0; kind < KINDS; kind++) {
                if (hasBit(kinds, kind)) {
                    addWays(behind(cast, role, kind), many);
                }
            }
        }

        private int commonKinds(Cast cast, int role) {
            int state = cell(now, role);
            int other = cast.otherOf(role, state);
            return cast.kindsOf(role, state) & cast.kindsOf(other, cell(now, other));
        }

        /** The number of the configuration that is come to when a sender's letter is heard at once. */
        private int behind(Cast cast, int role, int kind) {
            int state = cell(now, role);
            int other = cast.otherOf(role, state);
            System.arraycopy(now, 0, then, 0, ROLES);
            setCell(then, role, cast.behind(role, state, kind));
            setCell(then, other, cast.behind(other, cell(now, other), kind));
            return seen.numberOf(then);
        }

        private void addWays(int number, long many) {
            nextWays = wider(nextWays, number + 1);
            if (number >= 0 && number < nextWays.length) {
                nextWays[number] += many;
            }
        }

        /** The ways that one letter more gives; where they lead is not asked any more. */
        private long lastWays(Cast cast) {
            long sum = 0;
            for (int number = 0; number < seen.count; number++) {
                long many = setAt(nextWays, number);
                seen.copyRow(number, now);
                for (int role = 0; many > 0 && role < ROLES; role++) {
                    if (cast.meets(role, now)) {
                        sum += many * Integer.bitCount(commonKinds(cast, role));
                    }
                }
            }
            return sum;
        }

        private void startWith(int limit) {
            seen.start(ROLES, ROLES, limit);
            Arrays.fill(then, 0);
            seen.numberOf(then);
        }

        /** The whole that the parts make, or null if they make none. */
        Whole weave(Cast cast) {
            startWith(WOVEN_LIMIT);
            for (int place = 0; place < seen.count && place < WOVEN_LIMIT; place++) {
                seen.copyRow(place, now);
                Whole.clearPlace(cells, place);
                int sender = 0;
                while (sender < ROLES && !cast.meets(sender, now)) {
                    sender++;
                }
                boolean made = sender < ROLES ? weaveLetter(cast, place, sender) : cast.isOver(now);
                if (!made) {
                    return null;
                }
            }
            return new Whole(seen.count, Arrays.copyOf(cells, Whole.WIDTH * seen.count));
        }

        private boolean weaveLetter(Cast cast, int place, int sender) {
            int base = Whole.WIDTH * place;
            int state = cell(now, sender);
            int kinds = cast.kindsOf(sender, state);
            if (commonKinds(cast, sender) != kinds) {
                return false;
            }
            setCell(cells, base + Whole.SORT, LETTER);
            setCell(cells, base + Whole.FROM, sender);
            setCell(cells, base + Whole.TO, cast.otherOf(sender, state));
            setCell(cells, base + Whole.KIND_SET, kinds);
            for (int kind = 0; kind < KINDS; kind++) {
                int number = hasBit(kinds, kind) ? behind(cast, sender, kind) : NONE;
                if (hasBit(kinds, kind) && number == NONE) {
                    return false;
                }
                setCell(cells, base + Whole.BEHIND + kind, number);
            }
            return true;
        }
    }
}
