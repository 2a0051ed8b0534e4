/**
 * A reader of envelopes within envelopes. What it promises stands in ../shared/DOC.md.
 *
 * Arrays are reached through Bytes and Table alone, which look at every index before they use it,
 * so that no call can make the machine throw.
 */
public final class LoopEnvelopes {
    public static final int NONE = -1, UNKNOWN = -2, OUTSIDE = -3, NOT = -4, FULL = -5;

    private static final int TEXT_ROOM = 1200, ANSWER_ROOM = 2000;
    private static final int OPENING_WIDTH = 16;
    private static final int MOST_SEGMENTS = 120, MOST_ELEMENTS = 8, MOST_WIDTH = 12;
    private static final int MOST_SETS = 24, MOST_FAULTS_TOLD = 5;
    // Each GROUP takes two SEGMENTS at least.
    private static final int MOST_GROUPS = MOST_SEGMENTS / 2;

    private static final int OPENING = 1, TAIL = 2, MANY = 3, FRAME = 4;

    private static final int FAULT_NAME = 1, FAULT_ORDER = 2, FAULT_FORM = 3;
    private static final int FAULT_LINK = 4, FAULT_MORE = 5, FAULT_SUM = 6;

    // A NAME of three bytes is held as one number, so that names are compared like numbers.
    private static final int GRP = ('G' << 16) | ('R' << 8) | 'P';
    private static final int GEN = ('G' << 16) | ('E' << 8) | 'N';
    private static final int CLS = ('C' << 16) | ('L' << 8) | 'S';
    private static final int SET = ('S' << 16) | ('E' << 8) | 'T';
    private static final int END = ('E' << 16) | ('N' << 8) | 'D';
    private static final int LVL = ('L' << 16) | ('V' << 8) | 'L';
    private static final int NAM = ('N' << 16) | ('A' << 8) | 'M';
    private static final int CLM = ('C' << 16) | ('L' << 8) | 'M';
    private static final int LIN = ('L' << 16) | ('I' << 8) | 'N';
    private static final int AGR = ('A' << 16) | ('G' << 8) | 'R';
    private static final int AST = ('A' << 16) | ('S' << 8) | 'T';
    private static final int AFT = ('A' << 16) | ('F' << 8) | 'T';
    private static final int AEN = ('A' << 16) | ('E' << 8) | 'N';
    private static final int AGE = ('A' << 16) | ('G' << 8) | 'E';

    // The first columns of GROUPS and SETS are what group() and setOf() are asked for, by the same numbers.
    private static final int G_CODE = 0, G_NUMBER = 1, G_FIRST_SET = 2, G_SETS = 3, G_SEGMENT = 4;
    private static final int G_COLUMNS = 5;
    private static final int S_GROUP = 0, S_FIRST = 1, S_LENGTH = 2, S_LEVELS = 3, S_CLAIMS = 4;
    private static final int S_FAULTS = 5, S_AMOUNTS = 6, S_COLUMNS = 7;

    private final Bytes text;
    private final Segments segments;
    private final Frames frames;
    private final Judge judge;
    private final Writer writer;
    private int place;
    private boolean taken;

    public LoopEnvelopes() {
        text = new Bytes(TEXT_ROOM);
        segments = new Segments();
        frames = new Frames(segments);
        judge = new Judge(segments, frames);
        writer = new Writer(segments);
        place = NONE;
        taken = false;
    }

    public int feed(long w, int n) {
        if (n < 1 || n > 8) {
            return OUTSIDE;
        }
        if (text.length() + n > TEXT_ROOM) {
            return FULL;
        }
        for (int i = n - 1; i >= 0; i--) {
            text.append((int) ((w >>> (8 * i)) & 255));
        }
        return text.length();
    }

    public int set(int i, int b) {
        if (i < 0 || i >= text.length()) {
            return UNKNOWN;
        }
        if (b < 0 || b > 255) {
            return OUTSIDE;
        }
        int was = text.at(i);
        text.put(i, b);
        return was;
    }

    public int cut(int n) {
        if (n < 0 || n > text.length()) {
            return OUTSIDE;
        }
        int went = text.length() - n;
        text.shorten(n);
        return went;
    }

    public int read() {
        segments.take(text);
        frames.clear();
        place = NONE;
        int finding = segments.opens() ? scan() : tell(OPENING, 0);
        taken = finding == 0;
        for (int s = 0; taken && s < frames.setsHeld(); s++) {
            judge.judgeSet(s);
        }
        return finding;
    }

    public int where() {
        return place;
    }

    public int count(int what) {
        if (what < 0 || what > 6) {
            return OUTSIDE;
        }
        if (what == 5) {
            return text.length();
        }
        if (what == 6) {
            return writer.length();
        }
        if (!taken) {
            return NOT;
        }
        switch (what) {
            case 0: return segments.held();
            case 1: return frames.groupsHeld();
            case 2: return frames.setsHeld();
            case 3: return judge.rightAmong(0, frames.setsHeld());
            default: return segments.number();
        }
    }

    public int group(int g, int what) {
        if (!taken) {
            return NOT;
        }
        if (g < 0 || g >= frames.groupsHeld()) {
            return UNKNOWN;
        }
        if (what < 0 || what > G_SETS) {
            return OUTSIDE;
        }
        return frames.ofGroup(g, what);
    }

    public int setOf(int s, int what) {
        if (!taken) {
            return NOT;
        }
        if (s < 0 || s >= frames.setsHeld()) {
            return UNKNOWN;
        }
        if (what < 0 || what > S_AMOUNTS) {
            return OUTSIDE;
        }
        return frames.ofSet(s, what);
    }

    public int fault(int s, int k, int what) {
        if (!taken) {
            return NOT;
        }
        int segment = judge.faulty(s, k);
        if (segment == NONE) {
            return UNKNOWN;
        }
        if (what < 0 || what > 1) {
            return OUTSIDE;
        }
        return what == 0 ? segment - frames.ofSet(s, S_FIRST) + 1 : judge.faultOf(segment);
    }

    public int level(int s, int k, int what) {
        if (!taken) {
            return NOT;
        }
        int segment = frames.nthInSet(s, LVL, k);
        if (segment == NONE) {
            return UNKNOWN;
        }
        if (what < 0 || what > 5) {
            return OUTSIDE;
        }
        if (what == 0) {
            return segment - frames.ofSet(s, S_FIRST);
        }
        if (what == 5) {
            return judge.depthOf(segment);
        }
        return judge.isIll(segment) ? NONE : segments.levelValue(segment, what);
    }

    public int claim(int s, int k, int what) {
        if (!taken) {
            return NOT;
        }
        int segment = frames.nthInSet(s, CLM, k);
        if (segment == NONE) {
            return UNKNOWN;
        }
        int first = frames.ofSet(s, S_FIRST);
        switch (what) {
            case 0: return segment - first;
            case 1: return judge.amountOf(segment);
            // Before the first LVL there are none ahead, and one less than none is NONE.
            case 2: return segments.tally(first, segment, LVL) - 1;
            case 3: return segments.endOfRun(segment + 1, LIN) - segment - 1;
            case 4: return judge.lineSum(segment);
            default: return OUTSIDE;
        }
    }

    public int size(int k, int e) {
        if (!taken) {
            return NOT;
        }
        if (k < 0 || k >= segments.held()) {
            return UNKNOWN;
        }
        return e < 0 ? OUTSIDE : segments.widthOf(k, e);
    }

    public int byteOf(int k, int e, int i) {
        if (!taken) {
            return NOT;
        }
        if (k < 0 || k >= segments.held()) {
            return UNKNOWN;
        }
        if (e < 0) {
            return OUTSIDE;
        }
        int b = segments.byteIn(k, e, i);
        return b == NONE ? UNKNOWN : b;
    }

    public int answer() {
        if (!taken) {
            return NOT;
        }
        writer.clear();
        for (int g = 0; g < frames.groupsHeld(); g++) {
            writeGroup(g);
        }
        return writer.finish();
    }

    public int answered(int i) {
        int b = writer.at(i);
        return b == NONE ? UNKNOWN : b;
    }

    public int turn() {
        int length = writer.length();
        if (length == 0) {
            return NOT;
        }
        if (length > TEXT_ROOM) {
            return FULL;
        }
        writer.copyInto(text);
        return length;
    }

    private int scan() {
        int at = OPENING_WIDTH;
        // One round more than SEGMENTS may be: the last finds the 121st, or what stands behind CLS.
        for (int k = 0; k <= MOST_SEGMENTS; k++) {
            at = segments.behindBreaks(at);
            if (frames.areClosed()) {
                return at < segments.length() ? tell(TAIL, at) : 0;
            }
            int end = segments.closerFrom(at);
            if (end == NONE) {
                return tell(TAIL, segments.length());
            }
            if (!segments.keep(at, end)) {
                return tell(MANY, at);
            }
            if (!frames.admit(k)) {
                return tell(FRAME, at);
            }
            at = end + 1;
        }
        return tell(MANY, at);
    }

    private int tell(int finding, int at) {
        place = at;
        return finding;
    }

    private void writeGroup(int g) {
        int segment = frames.ofGroup(g, G_SEGMENT);
        writer.begin(AGR);
        writer.element(segment, 1);
        writer.element(segment, 2);
        writer.close();
        int sets = frames.ofGroup(g, G_SETS);
        int first = frames.ofGroup(g, G_FIRST_SET);
        for (int i = 0; i < sets; i++) {
            writeSet(first + i);
        }
        int right = judge.rightAmong(first, sets);
        writer.begin(AGE);
        writer.letter(right == sets ? 'A' : right == 0 ? 'R' : 'P');
        writer.figure(sets);
        writer.figure(right);
        writer.close();
    }

    private void writeSet(int s) {
        int first = frames.ofSet(s, S_FIRST);
        writer.begin(AST);
        writer.element(first, 1);
        writer.element(first, 2);
        writer.close();
        int faults = frames.ofSet(s, S_FAULTS);
        for (int k = 0; k < faults && k < MOST_FAULTS_TOLD; k++) {
            int segment = judge.faulty(s, k);
            writer.begin(AFT);
            writer.figure(segment - first + 1);
            writer.element(segment, 0);
            writer.figure(judge.faultOf(segment));
            writer.close();
        }
        writer.begin(AEN);
        writer.letter(faults == 0 ? 'A' : 'R');
        writer.close();
    }

    /** Bytes in a room that is made once; none is kept beyond it. */
    private static final class Bytes {
        private final byte[] cells;
        private int used;

        Bytes(int room) {
            cells = new byte[Math.max(room, 0)];
            used = 0;
        }

        int length() {
            return used;
        }

        int at(int i) {
            return i < 0 || i >= used || i >= cells.length ? NONE : cells[i] & 255;
        }

        void put(int i, int b) {
            if (i >= 0 && i < used && i < cells.length) {
                cells[i] = (byte) b;
            }
        }

        boolean append(int b) {
            if (used < 0 || used >= cells.length) {
                return false;
            }
            cells[used] = (byte) b;
            used++;
            return true;
        }

        void shorten(int n) {
            used = Math.max(0, Math.min(n, used));
        }

        void become(Bytes other) {
            used = 0;
            for (int i = 0; i < other.used; i++) {
                append(other.at(i));
            }
        }
    }

    /** Rows of numbers in a room that is made once; NONE stands wherever it has no cell. */
    private static final class Table {
        private final int rows;
        private final int columns;
        private final int[] cells;

        Table(int rows, int columns) {
            this.rows = rows;
            this.columns = columns;
            cells = new int[Math.max(rows * columns, 0)];
        }

        int at(int row, int column) {
            if (row < 0 || row >= rows || column < 0 || column >= columns) {
                return NONE;
            }
            int i = row * columns + column;
            return i < 0 || i >= cells.length ? NONE : cells[i];
        }

        void put(int row, int column, int value) {
            if (row < 0 || row >= rows || column < 0 || column >= columns) {
                return;
            }
            int i = row * columns + column;
            if (i >= 0 && i < cells.length) {
                cells[i] = value;
            }
        }
    }

    /**
     * THE TEXT as it was when it was read, split into SEGMENTS and ELEMENTS. It is a copy, because what was
     * read stays told when THE TEXT changes.
     */
    private static final class Segments {
        // Below every AMOUNT that five figures and two can tell.
        private static final int NO_AMOUNT = -10000000;

        private final Bytes bytes;
        // Where each ELEMENT begins, and behind the last where one more would, so that widths need no search.
        private final Table begins;
        private final Table names;
        private final Table elements;
        private int held;

        Segments() {
            bytes = new Bytes(TEXT_ROOM);
            begins = new Table(MOST_SEGMENTS, MOST_ELEMENTS + 2);
            names = new Table(MOST_SEGMENTS, 1);
            elements = new Table(MOST_SEGMENTS, 1);
            held = 0;
        }

        void take(Bytes text) {
            bytes.become(text);
            held = 0;
        }

        int length() {
            return bytes.length();
        }

        int held() {
            return held;
        }

        int splitter() {
            return bytes.at(3);
        }

        int closer() {
            return bytes.at(15);
        }

        int number() {
            return numberAt(4, 9);
        }

        boolean opens() {
            int e = splitter();
            int p = bytes.at(14);
            int s = closer();
            return bytes.length() >= OPENING_WIDTH
                    && bytes.at(0) == 'O' && bytes.at(1) == 'P' && bytes.at(2) == 'N'
                    && number() != NONE && bytes.at(13) == e
                    && separates(e) && separates(p) && separates(s)
                    && e != p && e != s && p != s;
        }

        int behindBreaks(int from) {
            int at = from;
            while (at < bytes.length() && isBreak(bytes.at(at))) {
                at++;
            }
            return at;
        }

        int closerFrom(int from) {
            for (int at = from; at < bytes.length(); at++) {
                if (bytes.at(at) == closer()) {
                    return at;
                }
            }
            return NONE;
        }

        /** False where the SEGMENT is more than the document lets stand: it is not kept then. */
        boolean keep(int from, int end) {
            int found = 0;
            int begin = from;
            begins.put(held, 0, from);
            for (int at = from; at <= end; at++) {
                if (at == end || bytes.at(at) == splitter()) {
                    if (at - begin > MOST_WIDTH || found > MOST_ELEMENTS) {
                        return false;
                    }
                    found++;
                    begin = at + 1;
                    begins.put(held, found, begin);
                }
            }
            if (held >= MOST_SEGMENTS) {
                return false;
            }
            elements.put(held, 0, found - 1);
            held++;
            names.put(held - 1, 0, nameAt(from, widthOf(held - 1, 0)));
            return true;
        }

        int nameOf(int k) {
            return names.at(k, 0);
        }

        int elementsOf(int k) {
            return elements.at(k, 0);
        }

        int widthOf(int k, int e) {
            if (k < 0 || k >= held || e < 0 || e > elements.at(k, 0)) {
                return NONE;
            }
            return begins.at(k, e + 1) - begins.at(k, e) - 1;
        }

        int byteIn(int k, int e, int i) {
            return i < 0 || i >= widthOf(k, e) ? NONE : bytes.at(begins.at(k, e) + i);
        }

        /** The number that the ELEMENT tells; NONE, if it is not 1 to most figures. */
        int figures(int k, int e, int most) {
            int width = widthOf(k, e);
            return width > most ? NONE : numberAt(begins.at(k, e), width);
        }

        boolean isWord(int k, int e) {
            int width = widthOf(k, e);
            return width >= 1 && width <= MOST_WIDTH;
        }

        boolean isCode(int k, int e) {
            int width = widthOf(k, e);
            int parts = 1;
            int firstWidth = Math.max(width, 0);
            for (int i = 0; i < width; i++) {
                if (byteIn(k, e, i) == bytes.at(14)) {
                    firstWidth = Math.min(firstWidth, i);
                    parts++;
                }
            }
            return parts <= 2 && firstWidth >= 1 && firstWidth <= 5;
        }

        /** In hundredths; NO_AMOUNT, if the ELEMENT is none. */
        int amount(int k, int e) {
            boolean below = byteIn(k, e, 0) == '-';
            int from = begins.at(k, e) + (below ? 1 : 0);
            int width = widthOf(k, e) - (below ? 1 : 0);
            int hundredths = 0;
            if (width > 3 && bytes.at(from + width - 3) == '.') {
                hundredths = numberAt(from + width - 2, 2);
                width -= 3;
            }
            int whole = width > 5 ? NONE : numberAt(from, width);
            if (whole == NONE || hundredths == NONE) {
                return NO_AMOUNT;
            }
            int together = whole * 100 + hundredths;
            return below ? -together : together;
        }

        /** What level() is asked for by 1 to 4, of a LVL that is not ILL. */
        int levelValue(int k, int what) {
            // PARENT alone may be nothing, and is told as 0 then.
            return what == 2 && widthOf(k, 2) == 0 ? 0 : figures(k, what, 4);
        }

        int tally(int from, int to, int name) {
            int found = 0;
            for (int k = from; k < to; k++) {
                if (names.at(k, 0) == name) {
                    found++;
                }
            }
            return found;
        }

        int lastOf(int from, int to, int name) {
            for (int k = to - 1; k >= from && k >= 0; k--) {
                if (names.at(k, 0) == name) {
                    return k;
                }
            }
            return NONE;
        }

        int nthOf(int from, int to, int name, int n) {
            int left = n;
            for (int k = from; k < to && left >= 0; k++) {
                if (names.at(k, 0) == name) {
                    if (left == 0) {
                        return k;
                    }
                    left--;
                }
            }
            return NONE;
        }

        int endOfRun(int from, int name) {
            int k = from;
            while (k < held && names.at(k, 0) == name) {
                k++;
            }
            return k;
        }

        private int nameAt(int from, int width) {
            return width != 3 ? 0 : (bytes.at(from) << 16) | (bytes.at(from + 1) << 8) | bytes.at(from + 2);
        }

        /** NONE, if there are not 1 to 9 bytes, or one of them is no figure. */
        private int numberAt(int from, int width) {
            if (width < 1 || width > 9) {
                return NONE;
            }
            int number = 0;
            for (int i = 0; i < width; i++) {
                int b = bytes.at(from + i);
                if (b < '0' || b > '9') {
                    return NONE;
                }
                number = number * 10 + b - '0';
            }
            return number;
        }

        private static boolean isBreak(int b) {
            return b == 10 || b == 13;
        }

        private static boolean separates(int b) {
            boolean letter = b >= 'A' && b <= 'Z';
            boolean figure = b >= '0' && b <= '9';
            boolean plain = b == ' ' || b == '-' || b == '.';
            return b >= 0 && b < 128 && !letter && !figure && !plain && !isBreak(b);
        }
    }

    /** Which SEGMENTS make GROUPS and SETS, and whether they stand where they may. */
    private static final class Frames {
        private static final int BETWEEN = 0, IN_GROUP = 1, IN_SET = 2, CLOSED = 3;

        private final Segments segments;
        private final Table groups;
        private final Table sets;
        private int groupsHeld;
        private int setsHeld;
        private int stage;

        Frames(Segments segments) {
            this.segments = segments;
            groups = new Table(MOST_GROUPS, G_COLUMNS);
            sets = new Table(MOST_SETS, S_COLUMNS);
            groupsHeld = 0;
            setsHeld = 0;
            stage = BETWEEN;
        }

        void clear() {
            groupsHeld = 0;
            setsHeld = 0;
            stage = BETWEEN;
        }

        int groupsHeld() {
            return groupsHeld;
        }

        int setsHeld() {
            return setsHeld;
        }

        boolean areClosed() {
            return stage == CLOSED;
        }

        int ofGroup(int g, int column) {
            return groups.at(g, column);
        }

        int ofSet(int s, int column) {
            return sets.at(s, column);
        }

        void noteOfSet(int s, int column, int value) {
            sets.put(s, column, value);
        }

        int nthInSet(int s, int name, int n) {
            if (s < 0 || s >= setsHeld) {
                return NONE;
            }
            int first = sets.at(s, S_FIRST);
            return segments.nthOf(first, first + sets.at(s, S_LENGTH), name, n);
        }

        /** False, if SEGMENT k cannot stand behind those that were admitted ahead of it. */
        boolean admit(int k) {
            int name = segments.nameOf(k);
            switch (stage) {
                case BETWEEN: return name == GRP ? beginGroup(k) : name == CLS && endAll(k);
                case IN_GROUP: return name == SET ? beginSet(k) : name == GEN && endGroup(k);
                case IN_SET: return goOnInSet(name);
                default: return false;
            }
        }

        private boolean beginGroup(int k) {
            int a = segments.byteIn(k, 1, 0);
            int b = segments.byteIn(k, 1, 1);
            int number = segments.figures(k, 2, 9);
            if (segments.elementsOf(k) != 2 || segments.widthOf(k, 1) != 2
                    || !isLetter(a) || !isLetter(b) || number == NONE) {
                return false;
            }
            groups.put(groupsHeld, G_CODE, 256 * a + b);
            groups.put(groupsHeld, G_NUMBER, number);
            groups.put(groupsHeld, G_FIRST_SET, NONE);
            groups.put(groupsHeld, G_SETS, 0);
            groups.put(groupsHeld, G_SEGMENT, k);
            groupsHeld++;
            stage = IN_GROUP;
            return true;
        }

        private boolean beginSet(int k) {
            if (setsHeld >= MOST_SETS) {
                return false;
            }
            int g = groupsHeld - 1;
            sets.put(setsHeld, S_GROUP, g);
            sets.put(setsHeld, S_FIRST, k);
            sets.put(setsHeld, S_LENGTH, 1);
            if (groups.at(g, G_SETS) == 0) {
                groups.put(g, G_FIRST_SET, setsHeld);
            }
            groups.put(g, G_SETS, groups.at(g, G_SETS) + 1);
            setsHeld++;
            stage = IN_SET;
            return true;
        }

        private boolean goOnInSet(int name) {
            if (name == GRP || name == GEN || name == CLS || name == SET) {
                return false;
            }
            int s = setsHeld - 1;
            sets.put(s, S_LENGTH, sets.at(s, S_LENGTH) + 1);
            if (name == END) {
                stage = IN_GROUP;
            }
            return true;
        }

        private boolean endGroup(int k) {
            int g = groupsHeld - 1;
            stage = BETWEEN;
            return tells(k, groups.at(g, G_SETS), groups.at(g, G_NUMBER));
        }

        private boolean endAll(int k) {
            stage = CLOSED;
            return tells(k, groupsHeld, segments.number());
        }

        private boolean tells(int k, int count, int number) {
            return segments.elementsOf(k) == 2
                    && segments.figures(k, 1, 6) == count && segments.figures(k, 2, 9) == number;
        }

        private static boolean isLetter(int b) {
            return b >= 'A' && b <= 'Z';
        }
    }

    /** What is wrong in the SETS, SEGMENT by SEGMENT. */
    private static final class Judge {
        private static final int ILL = 0, FAULT = 1, DEPTH = 2, AMOUNT = 3, COLUMNS = 4;

        private final Segments segments;
        private final Frames frames;
        private final Table marks;
        // The SET that is judged: its first SEGMENT, and the one behind its last.
        private int first;
        private int end;

        Judge(Segments segments, Frames frames) {
            this.segments = segments;
            this.frames = frames;
            marks = new Table(MOST_SEGMENTS, COLUMNS);
            first = 0;
            end = 0;
        }

        boolean isIll(int k) {
            return marks.at(k, ILL) == 1;
        }

        int faultOf(int k) {
            return marks.at(k, FAULT);
        }

        /** Of a LVL; NONE, if it is LOOSE. */
        int depthOf(int k) {
            return marks.at(k, DEPTH);
        }

        int amountOf(int k) {
            return marks.at(k, AMOUNT);
        }

        int lineSum(int claim) {
            int behind = segments.endOfRun(claim + 1, LIN);
            int sum = 0;
            for (int k = claim + 1; k < behind; k++) {
                sum += amountOf(k);
            }
            return sum;
        }

        int rightAmong(int from, int sets) {
            int right = 0;
            for (int i = 0; i < sets; i++) {
                if (frames.ofSet(from + i, S_FAULTS) == 0) {
                    right++;
                }
            }
            return right;
        }

        /** The SEGMENT that has FAULT n of SET s; NONE, if there is none. */
        int faulty(int s, int n) {
            if (s < 0 || s >= frames.setsHeld() || n < 0 || n >= frames.ofSet(s, S_FAULTS)) {
                return NONE;
            }
            int from = frames.ofSet(s, S_FIRST);
            int left = n;
            for (int k = from; k < from + frames.ofSet(s, S_LENGTH); k++) {
                if (faultOf(k) > 0) {
                    if (left == 0) {
                        return k;
                    }
                    left--;
                }
            }
            return NONE;
        }

        void judgeSet(int s) {
            first = frames.ofSet(s, S_FIRST);
            end = first + frames.ofSet(s, S_LENGTH);
            // A FAULT of a LVL or CLM asks of SEGMENTS behind it whether they are ILL: that is marked ahead.
            for (int k = first; k < end; k++) {
                markForm(k);
            }
            int faults = 0;
            int amounts = 0;
            for (int k = first; k < end; k++) {
                int fault = findFault(k);
                marks.put(k, FAULT, fault);
                marks.put(k, DEPTH, findDepth(k, fault));
                faults += fault > 0 ? 1 : 0;
                amounts += segments.nameOf(k) == CLM ? amountOf(k) : 0;
            }
            frames.noteOfSet(s, S_LEVELS, segments.tally(first, end, LVL));
            frames.noteOfSet(s, S_CLAIMS, segments.tally(first, end, CLM));
            frames.noteOfSet(s, S_FAULTS, faults);
            frames.noteOfSet(s, S_AMOUNTS, amounts);
        }

        private void markForm(int k) {
            int name = segments.nameOf(k);
            boolean ill = !isWellFormed(k, name);
            int amount = 0;
            if (!ill && (name == CLM || name == LIN)) {
                amount = segments.amount(k, segments.elementsOf(k));
            }
            marks.put(k, ILL, ill ? 1 : 0);
            marks.put(k, AMOUNT, amount);
        }

        private boolean isWellFormed(int k, int name) {
            int elements = segments.elementsOf(k);
            switch (name) {
                case SET: return elements == 2 && segments.widthOf(k, 1) == 3
                        && segments.figures(k, 1, 3) != NONE && segments.figures(k, 2, 9) != NONE;
                case END: return elements == 2
                        && segments.figures(k, 1, 6) != NONE && segments.figures(k, 2, 9) != NONE;
                case LVL: return elements == 4 && isLevelForm(k);
                case NAM: return elements == 2 && segments.isWord(k, 1) && segments.isWord(k, 2);
                case CLM: return elements == 2 && segments.isWord(k, 1)
                        && segments.amount(k, 2) != Segments.NO_AMOUNT;
                case LIN: return elements == 3 && segments.figures(k, 1, 3) != NONE
                        && segments.isCode(k, 2) && segments.amount(k, 3) != Segments.NO_AMOUNT;
                default: return true;
            }
        }

        private boolean isLevelForm(int k) {
            boolean parent = segments.widthOf(k, 2) == 0 || segments.figures(k, 2, 4) != NONE;
            int kind = segments.figures(k, 3, 2);
            int more = segments.figures(k, 4, 1);
            return segments.figures(k, 1, 4) != NONE && parent
                    && (kind == 20 || kind == 22 || kind == 23) && (more == 0 || more == 1);
        }

        /** The first FAULT that SEGMENT k has; 0, if it has none. */
        private int findFault(int k) {
            int name = segments.nameOf(k);
            if (!belongs(name)) {
                return FAULT_NAME;
            }
            if (isOutOfOrder(k, name)) {
                return FAULT_ORDER;
            }
            if (isIll(k) || (name == END && isWrongEnd(k))) {
                return FAULT_FORM;
            }
            switch (name) {
                case LVL: return isLevelUnlinked(k) ? FAULT_LINK : isMoreWrong(k) ? FAULT_MORE : 0;
                case CLM: return isClaimUnlinked(k) ? FAULT_LINK : lineSum(k) != amountOf(k) ? FAULT_SUM : 0;
                case LIN: return isLineUnlinked(k) ? FAULT_LINK : 0;
                default: return 0;
            }
        }

        private int findDepth(int k, int fault) {
            if (segments.nameOf(k) != LVL || isIll(k) || fault == FAULT_LINK) {
                return NONE;
            }
            return segments.widthOf(k, 2) == 0 ? 0 : depthOf(parentOf(k)) + 1;
        }

        private static boolean belongs(int name) {
            return name == SET || name == END || name == LVL || name == NAM || name == CLM || name == LIN;
        }

        private boolean isOutOfOrder(int k, int name) {
            int ahead = segments.nameOf(k - 1);
            switch (name) {
                case NAM: return ahead != LVL && ahead != NAM;
                case LIN: return ahead != CLM && ahead != LIN;
                case CLM: return segments.lastOf(first, k, LVL) == NONE;
                default: return false;
            }
        }

        private boolean isWrongEnd(int k) {
            boolean wrongNumber = segments.figures(k, 2, 9) != segments.figures(first, 2, 9);
            return segments.figures(k, 1, 6) != end - first || (!isIll(first) && wrongNumber);
        }

        private boolean isLevelUnlinked(int k) {
            if (segments.figures(k, 1, 4) != segments.tally(first, k, LVL) + 1) {
                return true;
            }
            int kind = segments.figures(k, 3, 2);
            if (kind == 20) {
                return segments.widthOf(k, 2) > 0;
            }
            int parent = parentOf(k);
            return parent == NONE || segments.figures(parent, 3, 2) != (kind == 22 ? 20 : 22);
        }

        /** The LVL ahead that has the PARENT of LVL k as ID and is not LOOSE; NONE, if there is none. */
        private int parentOf(int k) {
            // A LVL that is not LOOSE has its own place among the LVLS as ID: so the PARENT tells the place.
            int parent = segments.nthOf(first, k, LVL, segments.figures(k, 2, 4) - 1);
            return depthOf(parent) == NONE ? NONE : parent;
        }

        private boolean isMoreWrong(int k) {
            int id = segments.figures(k, 1, 4);
            boolean has = false;
            for (int j = k + 1; j < end; j++) {
                has = has || (segments.nameOf(j) == LVL && !isIll(j) && segments.figures(j, 2, 4) == id);
            }
            return has != (segments.figures(k, 4, 1) == 1);
        }

        private boolean isClaimUnlinked(int k) {
            int level = segments.lastOf(first, k, LVL);
            int kind = segments.figures(level, 3, 2);
            boolean moreBelow = kind == 22 && segments.figures(level, 4, 1) == 1;
            return depthOf(level) == NONE || kind == 20 || moreBelow;
        }

        private boolean isLineUnlinked(int k) {
            // Where a SET has a LIN without any CLM ahead, its LINS count from the SET on.
            int claim = Math.max(first, segments.lastOf(first, k, CLM));
            return segments.figures(k, 1, 3) != segments.tally(claim, k, LIN) + 1;
        }
    }

    /** THE ANSWER, by THE OPENING's separators. */
    private static final class Writer {
        private final Segments segments;
        private final Bytes bytes;
        private boolean over;

        Writer(Segments segments) {
            this.segments = segments;
            bytes = new Bytes(ANSWER_ROOM);
            over = false;
        }

        int length() {
            return bytes.length();
        }

        int at(int i) {
            return bytes.at(i);
        }

        void copyInto(Bytes text) {
            text.become(bytes);
        }

        void clear() {
            bytes.shorten(0);
            over = false;
        }

        int finish() {
            if (over) {
                clear();
                return FULL;
            }
            return bytes.length();
        }

        void begin(int name) {
            add((name >> 16) & 255);
            add((name >> 8) & 255);
            add(name & 255);
        }

        void element(int k, int e) {
            add(segments.splitter());
            int width = segments.widthOf(k, e);
            for (int i = 0; i < width; i++) {
                add(segments.byteIn(k, e, i));
            }
        }

        void letter(int b) {
            add(segments.splitter());
            add(b);
        }

        void figure(int number) {
            add(segments.splitter());
            if (number >= 100) {
                add('0' + number / 100 % 10);
            }
            if (number >= 10) {
                add('0' + number / 10 % 10);
            }
            add('0' + number % 10);
        }

        void close() {
            add(segments.closer());
        }

        private void add(int b) {
            if (!bytes.append(b)) {
                over = true;
            }
        }
    }
}
