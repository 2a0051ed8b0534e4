import java.util.function.IntSupplier;

/** The promises 1 to 17 of the document, sentence by sentence. */
public final class PromiseSentencesTest {
    private static final Check check = new Check();
    private static final String HEAD = "OPN*000000042*:~";
    private static final String LEVELS = "LVL*1**20*1~LVL*2*1*22*0~";
    private static final int[] FAR = {Integer.MIN_VALUE, Integer.MIN_VALUE + 1, -1000, -2, -1};

    public static void main(String[] args) throws Exception {
        Sentences life = new Sentences(check, "An object is used", "later calls answer is free.");
        life.says("An object is used for at most 512 calls after it has been made; what later calls answer is free.");
        manyCalls();
        life.nothingIsLeft();

        Sentences document = new Sentences(check, "LoopEnvelopes(): An empty TEXT;", "NOT: it is empty.");
        document.says("LoopEnvelopes(): An empty TEXT; nothing was read.");
        newObject();

        document.says("int feed(long w, int n): The n lowest bytes of w (1 .. 8), the highest of them first, come behind THE TEXT"
                + " (what was read stays told): how many it has.");
        feedOfEachWidth();
        feedLeavesWhatWasRead();
        document.says("OUTSIDE; FULL.");
        feedRefused();

        document.says("int set(int i, int b): Byte i of THE TEXT becomes b: what it was. UNKNOWN; OUTSIDE.");
        set();
        document.says("int cut(int n): THE TEXT is cut to its first n bytes: how many went. OUTSIDE.");
        cut();

        document.says("int read(): READ: THE FINDING, 0 to 4.");
        read();
        document.says("int where(): The place of THE FINDING of the latest read(); NONE: there was none.");
        where();

        document.says("int count(int what): 0 SEGMENTS behind THE OPENING, 1 GROUPS, 2 SETS, 3 SETS that are RIGHT, 4 THE NUMBER; NOT.");
        counts();
        document.says("5 bytes of THE TEXT, 6 of THE ANSWER (go always).");
        countsThatGoAlways();
        document.says("OUTSIDE (ahead).");
        countOutside();

        document.says("int group(int g, int what): Of a GROUP (from 0): 0 its CODE (256 times the first byte and the second),"
                + " 1 its NUMBER, 2 its first SET (NONE), 3 how many SETS. UNKNOWN; OUTSIDE; NOT.");
        groups();
        document.says("int setOf(int s, int what): Of a SET (from 0): 0 its GROUP, 1 the SEGMENT that begins it, 2 how many SEGMENTS,"
                + " 3 LVLS, 4 CLMS, 5 FAULTS, 6 the AMOUNTS of its CLMS together (those not ILL). UNKNOWN; OUTSIDE; NOT.");
        sets();
        amountsTogether();
        document.says("int fault(int s, int k, int what): FAULT k (from 0) of a SET: 0 its place in the SET (from 1), 1 which (1 .. 6)."
                + " UNKNOWN; OUTSIDE; NOT.");
        faults();
        document.says("int level(int s, int k, int what): LVL k (from 0) of a SET: 0 its place in the SET (0 for SET), 1 ID,"
                + " 2 PARENT (0: nothing), 3 KIND, 4 MORE (1 to 4: NONE, if it is ILL),");
        levels();
        document.says("5 its depth: 1 and that of its PARENT, 0 without one (NONE, if it is LOOSE). UNKNOWN; OUTSIDE; NOT.");
        depths();
        document.says("int claim(int s, int k, int what): CLM k (from 0) of a SET: 0 its place in the SET (0 for SET),"
                + " 1 its AMOUNT (0, if it is ILL), 2 the last LVL ahead of it (from 0; NONE), 3 how many LINS are right behind it,"
                + " 4 the AMOUNTS of these together (those not ILL). UNKNOWN; OUTSIDE; NOT.");
        claims();

        document.says("int size(int k, int e): ELEMENT e (0: the NAME) of SEGMENT k (from 0, of all): how many bytes;"
                + " NONE: it has not so many. UNKNOWN; OUTSIDE: e below 0; NOT.");
        sizes();
        document.says("int byteOf(int k, int e, int i): Byte i of an ELEMENT. UNKNOWN: also where there is none; OUTSIDE: e below 0; NOT.");
        bytes();

        document.says("int answer(): THE ANSWER is written: how many bytes. NOT; FULL (it is empty then).");
        answer();
        document.says("int answered(int i): Byte i of THE ANSWER as it was written last. UNKNOWN.");
        answered();
        document.says("int turn(): THE ANSWER takes the place of THE TEXT (what was read stays told): how many bytes.");
        turn();
        document.says("FULL: more than 1200; NOT: it is empty.");
        turnRefused();

        document.nothingIsLeft();
        check.end();
    }

    private static LoopEnvelopes taken(String segments) {
        return Check.taken(Check.envelope(1, Check.set(segments)));
    }

    /** Such a call is refused with such an answer, and nothing changes. */
    private static void refused(LoopEnvelopes x, String call, IntSupplier calling, int want) {
        String before = Check.state(x);
        check.due(call, calling.getAsInt(), want);
        check.due("the state behind " + call, Check.state(x), before);
    }

    private static void row(String call, IntSupplier[] calls, int... want) {
        for (int what = 0; what < want.length; what++) {
            check.due(call + " " + what, calls[what].getAsInt(), want[what]);
        }
    }

    private static void manyCalls() {
        LoopEnvelopes x = new LoopEnvelopes();
        String most = HEAD + "GRP*HC*7~SET*837*1~" + "~".repeat(115) + "END*117*1~GEN*1*7~CLS*1*42~";
        byte[] bytes = most.getBytes(java.nio.charset.StandardCharsets.ISO_8859_1);
        int calls = 0;
        for (byte b : bytes) {
            x.feed(b, 1);
            calls++;
        }
        while (calls < 510) {
            check.due("read() as call " + calls, x.read(), 0);
            check.due("answer() as call " + calls, x.answer(), 80);
            calls += 2;
        }
        check.due("setOf(0, 5) as one of the last", x.setOf(0, 5), 115);
        check.due("answered(79) as the last", x.answered(79), '~');
    }

    private static void newObject() {
        LoopEnvelopes x = new LoopEnvelopes();
        check.due("count(5)", x.count(5), 0);
        check.due("count(6)", x.count(6), 0);
        check.due("where()", x.where(), LoopEnvelopes.NONE);
        refused(x, "count(0)", () -> x.count(0), LoopEnvelopes.NOT);
        refused(x, "set(0, 0)", () -> x.set(0, 0), LoopEnvelopes.UNKNOWN);
        refused(x, "cut(1)", () -> x.cut(1), LoopEnvelopes.OUTSIDE);
        refused(x, "answer()", () -> x.answer(), LoopEnvelopes.NOT);
        refused(x, "answered(0)", () -> x.answered(0), LoopEnvelopes.UNKNOWN);
        refused(x, "turn()", () -> x.turn(), LoopEnvelopes.NOT);
        check.due("cut(0)", x.cut(0), 0);
        check.due("read()", x.read(), 1);
        // Another object's calls are not this one's.
        LoopEnvelopes y = taken(LEVELS);
        check.due("count(2) of another", y.count(2), 1);
        check.due("count(2) of a new one", new LoopEnvelopes().count(2), LoopEnvelopes.NOT);
        check.due("count(5) of this one", x.count(5), 0);
    }

    private static void feedOfEachWidth() {
        long[] words = {0x8091A2B3C4D5E6F7L, 0L, -1L, Long.MIN_VALUE, Long.MAX_VALUE, 0x00000000FFFFFFFFL, 0xFFFFFFFF00000000L, 255, 256, -256};
        for (long w : words) {
            for (int n = 1; n <= 8; n++) {
                LoopEnvelopes x = Check.with("ab");
                check.due("feed(" + w + ", " + n + ")", x.feed(w, n), n + 2);
                StringBuilder want = new StringBuilder("ab");
                for (int i = 8 - n; i < 8; i++) {
                    want.append((char) (java.nio.ByteBuffer.allocate(8).putLong(w).get(i) & 255));
                }
                check.due("THE TEXT behind feed(" + w + ", " + n + ")", Check.text(x), want.toString());
            }
        }
    }

    private static void feedLeavesWhatWasRead() {
        LoopEnvelopes x = taken(LEVELS + "CLM*R*0~ZZZ~");
        int text = x.count(5);
        String before = Check.wasRead(x);
        check.due("feed", x.feed('x', 1), text + 1);
        check.due("what was read", Check.wasRead(x), before);
        check.due("where()", x.where(), LoopEnvelopes.NONE);
    }

    private static void feedRefused() {
        LoopEnvelopes x = taken(LEVELS);
        for (int n : new int[] {Integer.MIN_VALUE, -8, -1, 0, 9, 10, 16, 64, 257, Integer.MAX_VALUE}) {
            refused(x, "feed(1, " + n + ")", () -> x.feed(1, n), LoopEnvelopes.OUTSIDE);
        }
        for (int width = 1; width <= 8; width++) {
            int n = width;
            LoopEnvelopes y = Check.with("x".repeat(1200 - n));
            for (int more = n + 1; more <= 8; more++) {
                int much = more;
                refused(y, "feed(1, " + much + ") where " + n + " fit", () -> y.feed(1, much), LoopEnvelopes.FULL);
            }
            check.due("feed(1, " + n + ") where " + n + " fit", y.feed(1, n), 1200);
            refused(y, "feed(1, " + n + ") where none fits", () -> y.feed(1, n), LoopEnvelopes.FULL);
        }
        LoopEnvelopes full = Check.with("x".repeat(1200));
        check.due("cut(1199)", full.cut(1199), 1);
        check.due("feed behind a cut", full.feed('y', 1), 1200);
    }

    private static void set() {
        LoopEnvelopes x = Check.with("abc");
        for (int i = 0; i < 3; i++) {
            check.due("set(" + i + ", 255)", x.set(i, 255), 'a' + i);
            check.due("set(" + i + ", 0)", x.set(i, 0), 255);
            check.due("set(" + i + ", 200)", x.set(i, 200), 0);
        }
        check.due("count(5)", x.count(5), 3);
        for (int i : new int[] {Integer.MIN_VALUE, -1, 3, 4, 1199, 1200, Integer.MAX_VALUE}) {
            refused(x, "set(" + i + ", 0)", () -> x.set(i, 0), LoopEnvelopes.UNKNOWN);
            refused(x, "set(" + i + ", 256)", () -> x.set(i, 256), LoopEnvelopes.UNKNOWN);
        }
        for (int b : new int[] {Integer.MIN_VALUE, -256, -1, 256, 511, Integer.MAX_VALUE}) {
            refused(x, "set(0, " + b + ")", () -> x.set(0, b), LoopEnvelopes.OUTSIDE);
        }
        LoopEnvelopes full = Check.with("x".repeat(1200));
        check.due("set(1199, 0)", full.set(1199, 0), 'x');
        refused(full, "set(1200, 0)", () -> full.set(1200, 0), LoopEnvelopes.UNKNOWN);
        // The next read() alone sees it.
        LoopEnvelopes y = taken("");
        check.due("set of a byte that was read", y.set(20, 'h'), 'H');
        check.due("as it was read", y.byteOf(0, 1, 0), 'H');
        check.due("read()", y.read(), 4);
    }

    private static void cut() {
        for (int length : new int[] {0, 1, 2, 16, 1199, 1200}) {
            for (int n : new int[] {0, 1, length / 2, length - 1, length}) {
                if (n >= 0 && n <= length) {
                    LoopEnvelopes x = Check.with("abcdefgh".repeat(150).substring(0, length));
                    check.due("cut(" + n + ") of " + length, x.cut(n), length - n);
                    check.due("THE TEXT behind it", Check.text(x), "abcdefgh".repeat(150).substring(0, n));
                }
            }
            LoopEnvelopes x = Check.with("x".repeat(length));
            for (int n : new int[] {Integer.MIN_VALUE, -1, length + 1, 1201, Integer.MAX_VALUE}) {
                refused(x, "cut(" + n + ") of " + length, () -> x.cut(n), LoopEnvelopes.OUTSIDE);
            }
        }
        LoopEnvelopes y = taken(LEVELS);
        y.cut(0);
        check.due("count(2) stays told", y.count(2), 1);
    }

    private static void read() {
        String right = Check.envelope(1, Check.set(LEVELS));
        check.due("read() 0", Check.with(right).read(), 0);
        check.due("read() 1", Check.with(right.substring(1)).read(), 1);
        check.due("read() 2", Check.with(right + "x").read(), 2);
        check.due("read() 3", Check.with(right.replace("837", "8372222222222")).read(), 3);
        check.due("read() 4", Check.with(right.replace("GEN*1", "GEN*2")).read(), 4);
        // What an earlier one read is gone.
        LoopEnvelopes x = Check.taken(Check.envelope(2, Check.set("ZZZ~~" + LEVELS + "CLM*R*1~") + Check.set("LVL~")));
        x.cut(0);
        Check.append(x, right);
        check.due("read() again", x.read(), 0);
        check.due("it tells what a new object tells", Check.state(x), Check.state(Check.taken(right)));
        check.due("read() of the same", x.read(), 0);
        check.due("it tells the same", Check.state(x), Check.state(Check.taken(right)));
        // Nor is a SET that an earlier one had still judged, where the SEGMENTS are another SET's now.
        String shorter = Check.envelope(2, Check.set("") + Check.set("LVL*1**20*0~"));
        String longer = Check.envelope(1, Check.set(LEVELS + "CLM*R*0~LVL*3**20*0~"));
        for (String[] both : new String[][] {{shorter, longer}, {longer, shorter}}) {
            LoopEnvelopes y = Check.taken(both[0]);
            y.cut(0);
            Check.append(y, both[1]);
            check.due("read() of another", y.read(), 0);
            check.due("it tells what a new object tells of it", Check.state(y), Check.state(Check.taken(both[1])));
        }
    }

    private static void where() {
        LoopEnvelopes x = new LoopEnvelopes();
        check.due("ahead of read()", x.where(), LoopEnvelopes.NONE);
        x.read();
        check.due("of OPENING", x.where(), 0);
        Check.append(x, HEAD);
        check.due("ahead of the next read()", x.where(), 0);
        x.read();
        check.due("of TAIL", x.where(), 16);
        Check.append(x, "\nABCDEFGHIJKLM~");
        x.read();
        check.due("of MANY", x.where(), 17);
        x.cut(16);
        Check.append(x, "\n\nZZZ~");
        x.read();
        check.due("of FRAME", x.where(), 18);
        x.cut(16);
        Check.append(x, "CLS*0*42~");
        check.due("behind a cut", x.where(), 18);
        x.read();
        check.due("of none", x.where(), LoopEnvelopes.NONE);
        x.feed(0, 8);
        check.due("behind a feed", x.where(), LoopEnvelopes.NONE);
    }

    private static void counts() {
        String right = Check.set(LEVELS);
        LoopEnvelopes x = Check.taken(Check.envelope(3, right + Check.set("ZZZ~") + right));
        row("count", new IntSupplier[] {() -> x.count(0), () -> x.count(1), () -> x.count(2), () -> x.count(3), () -> x.count(4)},
                14, 1, 3, 2, 42);
        LoopEnvelopes y = Check.taken("OPN*000000000*:~CLS*0*0~");
        row("count", new IntSupplier[] {() -> y.count(0), () -> y.count(1), () -> y.count(2), () -> y.count(3), () -> y.count(4)},
                1, 0, 0, 0, 0);
        LoopEnvelopes z = Check.taken(Check.envelope(24, "SET*837*1~END*2*1~".repeat(24)));
        row("count", new IntSupplier[] {() -> z.count(0), () -> z.count(1), () -> z.count(2), () -> z.count(3), () -> z.count(4)},
                51, 1, 24, 24, 42);
        z.cut(0);
        check.due("read() of nothing", z.read(), 1);
        for (int what = 0; what <= 4; what++) {
            int asked = what;
            refused(z, "count(" + what + ")", () -> z.count(asked), LoopEnvelopes.NOT);
        }
    }

    private static void countsThatGoAlways() {
        LoopEnvelopes x = new LoopEnvelopes();
        check.due("count(5) of a new one", x.count(5), 0);
        check.due("count(6) of a new one", x.count(6), 0);
        Check.append(x, Check.envelope(0, ""));
        check.due("count(5) ahead of read()", x.count(5), 42);
        x.read();
        check.due("count(6) ahead of answer()", x.count(6), 0);
        x.answer();
        check.due("count(6) behind answer()", x.count(6), 19);
        x.feed('x', 1);
        x.read();
        check.due("count(5) with a FINDING", x.count(5), 43);
        check.due("count(6) with a FINDING", x.count(6), 19);
    }

    private static void countOutside() {
        LoopEnvelopes[] all = {new LoopEnvelopes(), taken(LEVELS), Check.with(HEAD)};
        all[2].read();
        for (LoopEnvelopes x : all) {
            for (int what : FAR) {
                refused(x, "count(" + what + ")", () -> x.count(what), LoopEnvelopes.OUTSIDE);
            }
            for (int what : new int[] {7, 8, 100, Integer.MAX_VALUE}) {
                refused(x, "count(" + what + ")", () -> x.count(what), LoopEnvelopes.OUTSIDE);
            }
        }
    }

    private static void group(LoopEnvelopes x, int g, int... want) {
        row("group(" + g + ")", new IntSupplier[] {() -> x.group(g, 0), () -> x.group(g, 1), () -> x.group(g, 2), () -> x.group(g, 3)}, want);
    }

    private static void groups() {
        String set = "SET*837*1~END*2*1~";
        LoopEnvelopes x = Check.taken(HEAD + "GRP*AA*0~GEN*0*0~GRP*AZ*1~" + set + "GEN*1*1~GRP*ZA*999999999~GEN*0*999999999~"
                + "GRP*ZZ*007~" + set + set + "GEN*2*7~CLS*4*42~");
        group(x, 0, 16705, 0, LoopEnvelopes.NONE, 0);
        group(x, 1, 16730, 1, 0, 1);
        group(x, 2, 23105, 999999999, LoopEnvelopes.NONE, 0);
        group(x, 3, 23130, 7, 1, 2);
        refused(x, "group(4, 0)", () -> x.group(4, 0), LoopEnvelopes.UNKNOWN);
        refused(x, "group(4, 4)", () -> x.group(4, 4), LoopEnvelopes.UNKNOWN);
        refused(x, "group(3, 4)", () -> x.group(3, 4), LoopEnvelopes.OUTSIDE);
        for (int n : FAR) {
            refused(x, "group(" + n + ", 0)", () -> x.group(n, 0), LoopEnvelopes.UNKNOWN);
            refused(x, "group(0, " + n + ")", () -> x.group(0, n), LoopEnvelopes.OUTSIDE);
        }
        // A GROUP that an earlier read() had is none.
        x.cut(0);
        Check.append(x, Check.envelope(0, ""));
        x.read();
        refused(x, "group(1, 0)", () -> x.group(1, 0), LoopEnvelopes.UNKNOWN);
        group(x, 0, 18499, 7, LoopEnvelopes.NONE, 0);
        x.cut(0);
        x.read();
        refused(x, "group(0, 0)", () -> x.group(0, 0), LoopEnvelopes.NOT);
        LoopEnvelopes most = Check.taken(HEAD + "GRP*HC*7~GEN*0*7~".repeat(58) + "GRP*ZZ*59~GEN*0*59~CLS*59*42~");
        group(most, 58, 23130, 59, LoopEnvelopes.NONE, 0);
        refused(most, "group(59, 0)", () -> most.group(59, 0), LoopEnvelopes.UNKNOWN);
    }

    private static void setOf(LoopEnvelopes x, int s, int... want) {
        row("setOf(" + s + ")", new IntSupplier[] {() -> x.setOf(s, 0), () -> x.setOf(s, 1), () -> x.setOf(s, 2), () -> x.setOf(s, 3),
            () -> x.setOf(s, 4), () -> x.setOf(s, 5), () -> x.setOf(s, 6)}, want);
    }

    private static void sets() {
        LoopEnvelopes x = Check.taken(HEAD + "GRP*AA*0~GEN*0*0~GRP*AZ*1~SET*837*1~END*2*1~" + Check.set(LEVELS + "CLM*R*1.50~LIN*1*A*1.50~CLM*S*2~")
                + "GEN*2*1~GRP*BB*2~SET~LVL~CLM~LIN~~END~GEN*1*2~CLS*3*42~");
        setOf(x, 0, 1, 3, 2, 0, 0, 0, 0);
        setOf(x, 1, 1, 5, 7, 2, 2, 1, 350);
        setOf(x, 2, 2, 14, 6, 1, 1, 6, 0);
        refused(x, "setOf(3, 0)", () -> x.setOf(3, 0), LoopEnvelopes.UNKNOWN);
        refused(x, "setOf(3, 7)", () -> x.setOf(3, 7), LoopEnvelopes.UNKNOWN);
        refused(x, "setOf(2, 7)", () -> x.setOf(2, 7), LoopEnvelopes.OUTSIDE);
        for (int n : FAR) {
            refused(x, "setOf(" + n + ", 0)", () -> x.setOf(n, 0), LoopEnvelopes.UNKNOWN);
            refused(x, "setOf(0, " + n + ")", () -> x.setOf(0, n), LoopEnvelopes.OUTSIDE);
        }
        x.cut(0);
        x.read();
        refused(x, "setOf(0, 0)", () -> x.setOf(0, 0), LoopEnvelopes.NOT);
    }

    private static void amountsTogether() {
        setOf(taken(LEVELS + "CLM*R*1~CLM*S*-3.25~"), 0, 0, 1, 6, 2, 2, 2, -225);
        // Not the ILL ones; those with another FAULT, too; no LIN's.
        setOf(taken("CLM*R*1~LIN*1*A*7~CLM*R*x~CLM**5~CLM*R*2*~"), 0, 0, 1, 7, 0, 4, 4, 100);
        StringBuilder many = new StringBuilder();
        for (int k = 0; k < 60; k++) {
            many.append("CLM*R*99999.99~");
        }
        setOf(taken(many.toString()), 0, 0, 1, 62, 0, 60, 60, 599999940);
        setOf(taken(many.toString().replace("R*9", "R*-9")), 0, 0, 1, 62, 0, 60, 60, -599999940);
    }

    private static void faults() {
        LoopEnvelopes x = Check.taken(Check.envelope(2, Check.set(LEVELS) + "SET*837*1~ZZZ~NAM*A*B~LVL~LVL*9**20*0~LVL*3**20*1~LVL*4**20*1~"
                + "LVL*5*4*22*0~CLM*R*1~END*10*2~"));
        int[][] want = {{2, 1}, {3, 2}, {4, 3}, {5, 4}, {6, 5}, {9, 6}, {10, 3}};
        for (int k = 0; k < want.length; k++) {
            int fault = k;
            row("fault(1, " + k + ")", new IntSupplier[] {() -> x.fault(1, fault, 0), () -> x.fault(1, fault, 1)}, want[k]);
        }
        refused(x, "fault(1, 7, 0)", () -> x.fault(1, 7, 0), LoopEnvelopes.UNKNOWN);
        refused(x, "fault(1, 7, 2)", () -> x.fault(1, 7, 2), LoopEnvelopes.UNKNOWN);
        refused(x, "fault(1, 6, 2)", () -> x.fault(1, 6, 2), LoopEnvelopes.OUTSIDE);
        refused(x, "fault(0, 0, 0)", () -> x.fault(0, 0, 0), LoopEnvelopes.UNKNOWN);
        refused(x, "fault(0, 0, 2)", () -> x.fault(0, 0, 2), LoopEnvelopes.UNKNOWN);
        refused(x, "fault(2, 0, 0)", () -> x.fault(2, 0, 0), LoopEnvelopes.UNKNOWN);
        for (int n : FAR) {
            refused(x, "fault(" + n + ", 0, 0)", () -> x.fault(n, 0, 0), LoopEnvelopes.UNKNOWN);
            refused(x, "fault(1, " + n + ", 0)", () -> x.fault(1, n, 0), LoopEnvelopes.UNKNOWN);
            refused(x, "fault(1, 0, " + n + ")", () -> x.fault(1, 0, n), LoopEnvelopes.OUTSIDE);
        }
        // More of them than THE ANSWER tells: all are told here.
        LoopEnvelopes y = taken("Z~".repeat(9));
        check.due("fault(0, 8, 0)", y.fault(0, 8, 0), 10);
        y.cut(0);
        y.read();
        refused(y, "fault(0, 0, 0)", () -> y.fault(0, 0, 0), LoopEnvelopes.NOT);
    }

    private static void level(LoopEnvelopes x, int s, int k, int... want) {
        row("level(" + s + ", " + k + ")", new IntSupplier[] {() -> x.level(s, k, 0), () -> x.level(s, k, 1), () -> x.level(s, k, 2),
            () -> x.level(s, k, 3), () -> x.level(s, k, 4), () -> x.level(s, k, 5)}, want);
    }

    private static void levels() {
        int none = LoopEnvelopes.NONE;
        LoopEnvelopes x = Check.taken(Check.envelope(2, Check.set("") + Check.set("LVL*0001**20*1~NAM*A*B~LVL*2*0001*22*1~ZZZ~LVL*3*2*23*0~"
                + "LVL~LVL*5*x*20*0~LVL*6**21*0~LVL*7**20*2~LVL*x**20*0~LVL*9999*9999*23*1~")));
        level(x, 1, 0, 1, 1, 0, 20, 1, 0);
        level(x, 1, 1, 3, 2, 1, 22, 1, 1);
        level(x, 1, 2, 5, 3, 2, 23, 0, 2);
        level(x, 1, 3, 6, none, none, none, none, none);
        level(x, 1, 4, 7, none, none, none, none, none);
        level(x, 1, 5, 8, none, none, none, none, none);
        level(x, 1, 6, 9, none, none, none, none, none);
        level(x, 1, 7, 10, none, none, none, none, none);
        level(x, 1, 8, 11, 9999, 9999, 23, 1, none);
        refused(x, "level(1, 9, 0)", () -> x.level(1, 9, 0), LoopEnvelopes.UNKNOWN);
        refused(x, "level(0, 0, 0)", () -> x.level(0, 0, 0), LoopEnvelopes.UNKNOWN);
        refused(x, "level(2, 0, 0)", () -> x.level(2, 0, 0), LoopEnvelopes.UNKNOWN);
        refused(x, "level(1, 9, 6)", () -> x.level(1, 9, 6), LoopEnvelopes.UNKNOWN);
        refused(x, "level(1, 8, 6)", () -> x.level(1, 8, 6), LoopEnvelopes.OUTSIDE);
        refused(x, "level(1, 3, 6) of an ILL one", () -> x.level(1, 3, 6), LoopEnvelopes.OUTSIDE);
        for (int n : FAR) {
            refused(x, "level(" + n + ", 0, 0)", () -> x.level(n, 0, 0), LoopEnvelopes.UNKNOWN);
            refused(x, "level(1, " + n + ", 0)", () -> x.level(1, n, 0), LoopEnvelopes.UNKNOWN);
            refused(x, "level(1, 0, " + n + ")", () -> x.level(1, 0, n), LoopEnvelopes.OUTSIDE);
        }
        x.cut(0);
        x.read();
        refused(x, "level(1, 0, 0)", () -> x.level(1, 0, 0), LoopEnvelopes.NOT);
    }

    private static void depths() {
        int none = LoopEnvelopes.NONE;
        LoopEnvelopes x = taken("LVL*1**20*1~LVL*2*1*22*1~LVL*3*2*23*0~LVL*4*1*22*0~LVL*5**20*0~LVL*6*5*22*1~"
                + "LVL*7*1*20*0~LVL*8*7*22*0~LVL*9*8*23*0~LVL*10**20~");
        int[] want = {0, 1, 2, 1, 0, 1, none, none, none, none};
        for (int k = 0; k < want.length; k++) {
            check.due("level(0, " + k + ", 5)", x.level(0, k, 5), want[k]);
        }
    }

    private static void claim(LoopEnvelopes x, int s, int k, int... want) {
        row("claim(" + s + ", " + k + ")", new IntSupplier[] {() -> x.claim(s, k, 0), () -> x.claim(s, k, 1), () -> x.claim(s, k, 2),
            () -> x.claim(s, k, 3), () -> x.claim(s, k, 4)}, want);
    }

    private static void claims() {
        int none = LoopEnvelopes.NONE;
        LoopEnvelopes x = Check.taken(Check.envelope(3, Check.set("") + Check.set("CLM*R*1~LIN*1*A*2~LVL~CLM*R*x~LIN*1*A*3~LIN*x*A*9~LIN*3*A*-4.50~"
                + "NAM*A*B~LIN*4*A*1~LVL*2**20*0~ZZZ~CLM*R*-99999.99~CLM*R*0.01~LIN*9*A*1~") + Check.set("LIN*1*A*1~")));
        claim(x, 1, 0, 1, 100, none, 1, 200);
        claim(x, 1, 1, 4, 0, 0, 3, -150);
        claim(x, 1, 2, 12, -9999999, 1, 0, 0);
        // The LINS of the next SET are none of its own.
        claim(x, 1, 3, 13, 1, 1, 1, 100);
        refused(x, "claim(1, 4, 0)", () -> x.claim(1, 4, 0), LoopEnvelopes.UNKNOWN);
        refused(x, "claim(0, 0, 0)", () -> x.claim(0, 0, 0), LoopEnvelopes.UNKNOWN);
        refused(x, "claim(3, 0, 0)", () -> x.claim(3, 0, 0), LoopEnvelopes.UNKNOWN);
        refused(x, "claim(1, 4, 5)", () -> x.claim(1, 4, 5), LoopEnvelopes.UNKNOWN);
        refused(x, "claim(1, 3, 5)", () -> x.claim(1, 3, 5), LoopEnvelopes.OUTSIDE);
        for (int n : FAR) {
            refused(x, "claim(" + n + ", 0, 0)", () -> x.claim(n, 0, 0), LoopEnvelopes.UNKNOWN);
            refused(x, "claim(1, " + n + ", 0)", () -> x.claim(1, n, 0), LoopEnvelopes.UNKNOWN);
            refused(x, "claim(1, 0, " + n + ")", () -> x.claim(1, 0, n), LoopEnvelopes.OUTSIDE);
        }
        x.cut(0);
        x.read();
        refused(x, "claim(1, 0, 0)", () -> x.claim(1, 0, 0), LoopEnvelopes.NOT);
    }

    private static void sizes() {
        LoopEnvelopes x = taken("ABCDEFGHIJKL*1**22*ABCDEFGHIJKL****~~*~");
        int[] want = {12, 1, 0, 2, 12, 0, 0, 0, 0, LoopEnvelopes.NONE, LoopEnvelopes.NONE};
        for (int e = 0; e < want.length; e++) {
            check.due("size(2, " + e + ")", x.size(2, e), want[e]);
        }
        check.due("size(3, 0)", x.size(3, 0), 0);
        check.due("size(3, 1)", x.size(3, 1), LoopEnvelopes.NONE);
        check.due("size(4, 1)", x.size(4, 1), 0);
        check.due("size(4, 2)", x.size(4, 2), LoopEnvelopes.NONE);
        check.due("size(4, most)", x.size(4, Integer.MAX_VALUE), LoopEnvelopes.NONE);
        check.due("size(0, 0)", x.size(0, 0), 3);
        check.due("size(7, 0)", x.size(7, 0), 3);
        for (int k : new int[] {8, 119, 120, 121, Integer.MAX_VALUE, -1, Integer.MIN_VALUE}) {
            refused(x, "size(" + k + ", 0)", () -> x.size(k, 0), LoopEnvelopes.UNKNOWN);
            refused(x, "size(" + k + ", -1)", () -> x.size(k, -1), LoopEnvelopes.UNKNOWN);
        }
        for (int n : FAR) {
            refused(x, "size(2, " + n + ")", () -> x.size(2, n), LoopEnvelopes.OUTSIDE);
        }
        x.cut(0);
        x.read();
        refused(x, "size(0, 0)", () -> x.size(0, 0), LoopEnvelopes.NOT);
    }

    private static void bytes() {
        for (char b = 0; b < 256; b++) {
            if (b != '*' && b != '~') {
                check.due("byteOf of byte " + (int) b, taken("X*a" + b + "c~").byteOf(2, 1, 1), b);
            }
        }
        LoopEnvelopes x = taken("AB**C*~~");
        check.due("element (2, 0)", Check.element(x, 2, 0), "AB");
        check.due("byteOf(2, 2, 0)", x.byteOf(2, 2, 0), 'C');
        int[][] none = {{2, 0, 2}, {2, 0, -1}, {2, 1, 0}, {2, 1, -1}, {2, 2, 1}, {2, 3, 0}, {2, 4, 0}, {2, 9, 0}, {2, Integer.MAX_VALUE, 0},
            {2, 0, Integer.MAX_VALUE}, {2, 0, Integer.MIN_VALUE}, {3, 0, 0}, {3, 1, 0}, {7, 0, 0}, {-1, 0, 0}, {120, 0, 0}, {7, -1, 0},
            {-1, -1, 0}, {Integer.MAX_VALUE, 0, 0}, {Integer.MIN_VALUE, 0, 0}};
        for (int[] n : none) {
            refused(x, "byteOf(" + n[0] + ", " + n[1] + ", " + n[2] + ")", () -> x.byteOf(n[0], n[1], n[2]), LoopEnvelopes.UNKNOWN);
        }
        for (int n : FAR) {
            refused(x, "byteOf(2, " + n + ", 0)", () -> x.byteOf(2, n, 0), LoopEnvelopes.OUTSIDE);
        }
        x.cut(0);
        x.read();
        refused(x, "byteOf(0, 0, 0)", () -> x.byteOf(0, 0, 0), LoopEnvelopes.NOT);
    }

    private static void answer() {
        LoopEnvelopes x = taken("ZZZ~");
        String want = "AGR*HC*7~AST*837*1~AFT*2*ZZZ*1~AEN*R~AGE*R*1*0~";
        check.due("answer()", x.answer(), want.length());
        check.due("THE ANSWER", Check.answered(x), want);
        check.due("answer() again", x.answer(), want.length());
        check.due("THE ANSWER again", Check.answered(x), want);
        // Of what was read, not of THE TEXT as it is.
        x.cut(0);
        check.due("answer() behind a cut", x.answer(), want.length());
        x.read();
        refused(x, "answer() of what was not TAKEN", () -> x.answer(), LoopEnvelopes.NOT);
        check.due("THE ANSWER stays", Check.answered(x), want);
        Check.append(x, Check.answering(22, 2001));
        check.due("read()", x.read(), 0);
        check.due("answer() of 2001", x.answer(), LoopEnvelopes.FULL);
        check.due("it is empty", x.count(6), 0);
        check.due("answer() of 2001 again", x.answer(), LoopEnvelopes.FULL);
        check.due("it is TAKEN still", x.count(2), 22);
        x.cut(0);
        Check.append(x, HEAD + "CLS*0*42~");
        check.due("read() of no GROUPS", x.read(), 0);
        check.due("answer() of no GROUPS", x.answer(), 0);
    }

    private static void answered() {
        LoopEnvelopes x = taken("ZZZ~");
        refused(x, "answered(0) ahead of answer()", () -> x.answered(0), LoopEnvelopes.UNKNOWN);
        x.answer();
        check.due("answered(0)", x.answered(0), 'A');
        check.due("answered(46)", x.answered(46), '~');
        for (int i : new int[] {Integer.MIN_VALUE, -1, 47, 48, 1999, 2000, Integer.MAX_VALUE}) {
            refused(x, "answered(" + i + ")", () -> x.answered(i), LoopEnvelopes.UNKNOWN);
        }
        // As it was written last: what is fed or read behind it leaves it, the next answer() does not.
        String first = Check.answered(x);
        x.cut(0);
        Check.append(x, Check.envelope(0, ""));
        x.read();
        check.due("THE ANSWER behind another read()", Check.answered(x), first);
        x.answer();
        check.due("THE ANSWER behind another answer()", Check.answered(x), "AGR*HC*7~AGE*A*0*0~");
        refused(x, "answered(19)", () -> x.answered(19), LoopEnvelopes.UNKNOWN);
        LoopEnvelopes most = Check.taken(Check.answering(22, 2000));
        most.answer();
        check.due("answered(1999)", most.answered(1999), '~');
        refused(most, "answered(2000)", () -> most.answered(2000), LoopEnvelopes.UNKNOWN);
    }

    private static void turn() {
        LoopEnvelopes x = taken("ZZZ~");
        x.answer();
        String want = Check.answered(x);
        String before = Check.wasRead(x);
        check.due("turn()", x.turn(), 47);
        check.due("THE TEXT", Check.text(x), want);
        check.due("THE ANSWER", Check.answered(x), want);
        check.due("what was read", Check.wasRead(x), before);
        check.due("turn() again", x.turn(), 47);
        check.due("THE TEXT again", Check.text(x), want);
        // They are two: what THE TEXT becomes leaves THE ANSWER.
        x.set(0, 'z');
        check.due("THE ANSWER behind set()", x.answered(0), 'A');
        check.due("feed", x.feed('x', 1), 48);
        check.due("count(6) behind feed()", x.count(6), 47);
        check.due("cut", x.cut(5), 43);
        check.due("count(6) behind cut()", x.count(6), 47);
        check.due("read()", x.read(), 1);
        refused(x, "count(2)", () -> x.count(2), LoopEnvelopes.NOT);
        check.due("turn() with a FINDING", x.turn(), 47);
        // A longer one in the place of a shorter TEXT.
        LoopEnvelopes y = Check.taken(Check.answering(12, 1200));
        y.answer();
        y.cut(3);
        check.due("turn() of more than there was", y.turn(), 1200);
        check.due("THE TEXT", Check.text(y), Check.answered(y));
        refused(y, "feed behind it", () -> y.feed(0, 1), LoopEnvelopes.FULL);
    }

    private static void turnRefused() {
        for (int bytes : new int[] {1198, 1199, 1200, 1201, 1202, 1203}) {
            LoopEnvelopes x = Check.taken(Check.answering(12, bytes));
            refused(x, "turn() ahead of answer()", () -> x.turn(), LoopEnvelopes.NOT);
            x.answer();
            if (bytes > 1200) {
                refused(x, "turn() of " + bytes, () -> x.turn(), LoopEnvelopes.FULL);
            } else {
                check.due("turn() of " + bytes, x.turn(), bytes);
            }
        }
        LoopEnvelopes most = Check.taken(Check.answering(22, 2000));
        most.answer();
        refused(most, "turn() of 2000", () -> most.turn(), LoopEnvelopes.FULL);
        LoopEnvelopes none = Check.taken(HEAD + "CLS*0*42~");
        none.answer();
        refused(none, "turn() of no GROUPS", () -> none.turn(), LoopEnvelopes.NOT);
        LoopEnvelopes full = Check.taken(Check.answering(22, 2001));
        full.answer();
        refused(full, "turn() of what was too long", () -> full.turn(), LoopEnvelopes.NOT);
    }
}
