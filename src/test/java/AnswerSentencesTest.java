import java.util.function.IntSupplier;

/** Part 4 of the document's terms, sentence by sentence: THE ANSWER, and what is refused, and in which order. */
public final class AnswerSentencesTest {
    private static final Check check = new Check();
    private static final String HEAD = "OPN*000000042*:~";
    private static final String RIGHT = "SET*837*1~END*2*1~";
    private static final String WRONG = "SET*837*1~END*2*2~";
    private static final String GOOD_ANSWER = "AST*837*1~AEN*A~";
    private static final String BAD_ANSWER = "AST*837*1~AFT*2*END*3~AEN*R~";
    private static final int[] BEYOND = {Integer.MIN_VALUE, -2, -1, 120, 2000, Integer.MAX_VALUE};

    public static void main(String[] args) throws Exception {
        Sentences document = new Sentences(check, "4 THE ANSWER is written", "but NOT ahead of UNKNOWN.");

        document.says("4 THE ANSWER is written by THE OPENING's separators (s behind each SEGMENT):");
        separators();
        document.says("for each GROUP: AGR e CODE e NUMBER;");
        groups();
        document.says("for each of its SETS: AST e its first ELEMENT e its second (nothing where there is none), all as they came;");
        sets();
        document.says("for each of its FAULTS, 5 at most: AFT e its place in the SET (1 for SET) e its NAME e the FAULT;");
        fiveFaults();
        places();
        namesOfFaults();
        document.says("AEN e A, if the SET is RIGHT, R, if it is not;");
        endsOfSets();
        document.says("behind them AGE e A, R or P (all are RIGHT, none is, others; without SETS A)"
                + " e how many SETS e how many are RIGHT.");
        endsOfGroups();
        document.says("2000 bytes at most; more: there is none.");
        mostBytes();
        document.says("Refused, and nothing changes: UNKNOWN (no such SET, GROUP, LVL, CLM, FAULT, byte),");
        unknown();
        document.says("OUTSIDE (another number is not as told),");
        outside();
        document.says("NOT (THE TEXT was not TAKEN by the latest read()),");
        not();
        document.says("FULL: the first of these that fits, but NOT ahead of UNKNOWN.");
        theFirstThatFits();

        document.nothingIsLeft();
        check.end();
    }

    private static void answers(String text, String want) {
        LoopEnvelopes x = Check.taken(text);
        check.due("answer() of " + Check.shown(text), x.answer(), want.length());
        check.due("THE ANSWER of " + Check.shown(text), Check.answered(x), want);
    }

    private static void answersSet(String set, boolean right, String want) {
        answers(Check.envelope(1, set), "AGR*HC*7~" + want + "AGE*" + (right ? "A*1*1~" : "R*1*0~"));
    }

    private static void separators() {
        String text = Check.envelope(2, RIGHT + "SET*837*1~:~END*3*1~");
        String want = "AGR*HC*7~" + GOOD_ANSWER + "AST*837*1~AFT*2*:*1~AEN*R~AGE*P*2*1~";
        char[] signs = {'*', ':', '~', 0, 1, 127, 'a', 'z', '@', '[', '/', ';', '+'};
        for (char e : signs) {
            for (char p : signs) {
                for (char s : signs) {
                    if (e != p && e != s && p != s) {
                        answers(replaced(text, e, p, s), replaced(want, e, p, s));
                    }
                }
            }
        }
    }

    private static String replaced(String text, char e, char p, char s) {
        StringBuilder told = new StringBuilder();
        for (char c : text.toCharArray()) {
            told.append(c == '*' ? e : c == ':' ? p : c == '~' ? s : c);
        }
        return told.toString();
    }

    private static void groups() {
        answers(HEAD + "CLS*0*42~", "");
        answers(HEAD + "GRP*AZ*0~GEN*0*0~CLS*1*42~", "AGR*AZ*0~AGE*A*0*0~");
        // As they came: with the zeros ahead.
        answers(HEAD + "GRP*AZ*000000007~GEN*0*7~GRP*ZA*123456789~GEN*0*123456789~CLS*2*42~",
                "AGR*AZ*000000007~AGE*A*0*0~AGR*ZA*123456789~AGE*A*0*0~");
        // 59 GROUPS are the most that 120 SEGMENTS hold.
        answers(HEAD + "GRP*HC*7~GEN*0*7~".repeat(59) + "CLS*59*42~", "AGR*HC*7~AGE*A*0*0~".repeat(59));
    }

    private static void sets() {
        answersSet("SET*000*000000001~END*2*1~", true, "AST*000*000000001~AEN*A~");
        answersSet("SET~END*2*1~", false, "AST**~AFT*1*SET*3~AEN*R~");
        answersSet("SET*~END*2*1~", false, "AST**~AFT*1*SET*3~AEN*R~");
        answersSet("SET**~END*2*1~", false, "AST**~AFT*1*SET*3~AEN*R~");
        answersSet("SET**1~END*2*1~", false, "AST**1~AFT*1*SET*3~AEN*R~");
        answersSet("SET*837~END*2*1~", false, "AST*837*~AFT*1*SET*3~AEN*R~");
        answersSet("SET*A:B*C\n~END*2*1~", false, "AST*A:B*C\n~AFT*1*SET*3~AEN*R~");
        answersSet("SET*837*1*X*Y~END*2*1~", false, "AST*837*1~AFT*1*SET*3~AEN*R~");
        answersSet("SET*123456789012*123456789012~END*2*1~", false, "AST*123456789012*123456789012~AFT*1*SET*3~AEN*R~");
    }

    private static void fiveFaults() {
        for (int faults = 0; faults <= 8; faults++) {
            StringBuilder told = new StringBuilder();
            for (int k = 0; k < Math.min(5, faults); k++) {
                told.append("AFT*").append(k + 2).append("*Z*1~");
            }
            LoopEnvelopes x = Check.taken(Check.envelope(1, Check.set("Z~".repeat(faults))));
            check.due("setOf(0, 5)", x.setOf(0, 5), faults);
            answersSet(Check.set("Z~".repeat(faults)), faults == 0, "AST*837*1~" + told + (faults == 0 ? "AEN*A~" : "AEN*R~"));
        }
        // 5 of each SET, not of all together.
        String six = Check.set("Z~".repeat(6));
        String five = "AST*837*1~AFT*2*Z*1~AFT*3*Z*1~AFT*4*Z*1~AFT*5*Z*1~AFT*6*Z*1~AEN*R~";
        answers(Check.envelope(3, six.repeat(3)), "AGR*HC*7~" + five.repeat(3) + "AGE*R*3*0~");
    }

    private static void places() {
        answersSet("SET~END*2*1~", false, "AST**~AFT*1*SET*3~AEN*R~");
        for (int ahead : new int[] {0, 1, 6, 7, 8, 9, 87, 88, 89, 96, 97, 98, 99, 100, 107, 108, 109}) {
            String set = Check.set("LVL*1**20*0~" + "NAM*A*B~".repeat(ahead) + "Z~");
            answersSet(set, false, "AST*837*1~AFT*" + (ahead + 3) + "*Z*1~AEN*R~");
        }
        // The second SET's places begin at 1 again.
        answers(Check.envelope(2, RIGHT + "SET~END*2*1~"), "AGR*HC*7~" + GOOD_ANSWER + "AST**~AFT*1*SET*3~AEN*R~AGE*P*2*1~");
    }

    private static void namesOfFaults() {
        answersSet(Check.set("~"), false, "AST*837*1~AFT*2**1~AEN*R~");
        answersSet(Check.set("\r\nABCDEFGHIJKL*1*2~"), false, "AST*837*1~AFT*2*ABCDEFGHIJKL*1~AEN*R~");
        answersSet(Check.set("L:V\n~"), false, "AST*837*1~AFT*2*L:V\n*1~AEN*R~");
        for (char b = 0; b < 256; b++) {
            if (b != '*' && b != '~' && b != 10 && b != 13) {
                answersSet(Check.set(b + "~"), false, "AST*837*1~AFT*2*" + b + "*1~AEN*R~");
            }
        }
        // Each FAULT by its number, each NAME as it is.
        answersSet(Check.set("ZZZ~NAM*A*B~LVL~LVL*9**20*0~LVL*3**20*1~"), false,
                "AST*837*1~AFT*2*ZZZ*1~AFT*3*NAM*2~AFT*4*LVL*3~AFT*5*LVL*4~AFT*6*LVL*5~AEN*R~");
        answersSet(Check.set("LVL*1**20*1~LVL*2*1*22*0~CLM*R*1~LIN*9*A*0~"), false,
                "AST*837*1~AFT*4*CLM*6~AFT*5*LIN*4~AEN*R~");
    }

    private static void endsOfSets() {
        answersSet(RIGHT, true, GOOD_ANSWER);
        answersSet(WRONG, false, BAD_ANSWER);
    }

    private static void endsOfGroups() {
        answers(Check.envelope(0, ""), "AGR*HC*7~AGE*A*0*0~");
        for (int sets = 1; sets <= 24; sets++) {
            for (int right : new int[] {0, 1, sets / 2, sets - 1, sets}) {
                String which = right == sets ? "A" : right == 0 ? "R" : "P";
                answers(Check.envelope(sets, WRONG.repeat(sets - right) + RIGHT.repeat(right)), "AGR*HC*7~"
                        + BAD_ANSWER.repeat(sets - right) + GOOD_ANSWER.repeat(right) + "AGE*" + which + "*" + sets + "*" + right + "~");
            }
        }
        // Each GROUP by its own SETS.
        answers(HEAD + "GRP*AA*1~" + WRONG + "GEN*1*1~GRP*BB*2~GEN*0*2~GRP*CC*3~" + RIGHT + "GEN*1*3~GRP*DD*4~" + RIGHT + WRONG
                + "GEN*2*4~CLS*4*42~", "AGR*AA*1~" + BAD_ANSWER + "AGE*R*1*0~AGR*BB*2~AGE*A*0*0~AGR*CC*3~" + GOOD_ANSWER
                + "AGE*A*1*1~AGR*DD*4~" + GOOD_ANSWER + BAD_ANSWER + "AGE*P*2*1~");
    }

    private static void mostBytes() {
        for (int bytes = 1995; bytes <= 2030; bytes++) {
            LoopEnvelopes x = Check.taken(Check.answering(22, bytes));
            boolean fits = bytes <= 2000;
            check.due("answer() of " + bytes, x.answer(), fits ? bytes : LoopEnvelopes.FULL);
            check.due("count(6) of " + bytes, x.count(6), fits ? bytes : 0);
            check.due("answered(0) of " + bytes, x.answered(0), fits ? 'A' : LoopEnvelopes.UNKNOWN);
            check.due("the last byte of " + bytes, x.answered(bytes - 1), fits ? '~' : LoopEnvelopes.UNKNOWN);
        }
    }

    /** Such a call is refused with such an answer, and nothing changes. */
    private static void refused(LoopEnvelopes x, String call, IntSupplier calling, int want) {
        String before = Check.state(x);
        check.due(call, calling.getAsInt(), want);
        check.due("the state behind " + call, Check.state(x), before);
    }

    private static LoopEnvelopes oneOfAll() {
        LoopEnvelopes x = Check.taken(Check.envelope(1, Check.set("LVL*1**20*1~LVL*2*1*22*0~CLM*R*0~ZZZ~")));
        check.due("answer()", x.answer(), 47);
        return x;
    }

    private static void unknown() {
        LoopEnvelopes x = oneOfAll();
        for (int n : BEYOND) {
            refused(x, "group(" + n + ", 0)", () -> x.group(n, 0), LoopEnvelopes.UNKNOWN);
            refused(x, "setOf(" + n + ", 0)", () -> x.setOf(n, 0), LoopEnvelopes.UNKNOWN);
            refused(x, "fault(" + n + ", 0, 0)", () -> x.fault(n, 0, 0), LoopEnvelopes.UNKNOWN);
            refused(x, "fault(0, " + n + ", 0)", () -> x.fault(0, n, 0), LoopEnvelopes.UNKNOWN);
            refused(x, "level(" + n + ", 0, 0)", () -> x.level(n, 0, 0), LoopEnvelopes.UNKNOWN);
            refused(x, "level(0, " + n + ", 0)", () -> x.level(0, n, 0), LoopEnvelopes.UNKNOWN);
            refused(x, "claim(" + n + ", 0, 0)", () -> x.claim(n, 0, 0), LoopEnvelopes.UNKNOWN);
            refused(x, "claim(0, " + n + ", 0)", () -> x.claim(0, n, 0), LoopEnvelopes.UNKNOWN);
            refused(x, "size(" + n + ", 0)", () -> x.size(n, 0), LoopEnvelopes.UNKNOWN);
            refused(x, "byteOf(" + n + ", 0, 0)", () -> x.byteOf(n, 0, 0), LoopEnvelopes.UNKNOWN);
            refused(x, "byteOf(0, 0, " + n + ")", () -> x.byteOf(0, 0, n), LoopEnvelopes.UNKNOWN);
            refused(x, "answered(" + n + ")", () -> x.answered(n), LoopEnvelopes.UNKNOWN);
        }
        // Right behind the last of each.
        int text = x.count(5);
        for (int n : new int[] {Integer.MIN_VALUE, -1, text, text + 1, 1199, 1200, Integer.MAX_VALUE}) {
            refused(x, "set(" + n + ", 0)", () -> x.set(n, 0), LoopEnvelopes.UNKNOWN);
        }
        refused(x, "group(1, 0)", () -> x.group(1, 0), LoopEnvelopes.UNKNOWN);
        refused(x, "setOf(1, 0)", () -> x.setOf(1, 0), LoopEnvelopes.UNKNOWN);
        refused(x, "fault(1, 0, 0)", () -> x.fault(1, 0, 0), LoopEnvelopes.UNKNOWN);
        refused(x, "fault(0, 1, 0)", () -> x.fault(0, 1, 0), LoopEnvelopes.UNKNOWN);
        refused(x, "level(1, 0, 0)", () -> x.level(1, 0, 0), LoopEnvelopes.UNKNOWN);
        refused(x, "level(0, 2, 0)", () -> x.level(0, 2, 0), LoopEnvelopes.UNKNOWN);
        refused(x, "claim(1, 0, 0)", () -> x.claim(1, 0, 0), LoopEnvelopes.UNKNOWN);
        refused(x, "claim(0, 1, 0)", () -> x.claim(0, 1, 0), LoopEnvelopes.UNKNOWN);
        refused(x, "size(9, 0)", () -> x.size(9, 0), LoopEnvelopes.UNKNOWN);
        refused(x, "byteOf(9, 0, 0)", () -> x.byteOf(9, 0, 0), LoopEnvelopes.UNKNOWN);
        refused(x, "byteOf(0, 0, 3)", () -> x.byteOf(0, 0, 3), LoopEnvelopes.UNKNOWN);
        refused(x, "byteOf(0, 3, 0)", () -> x.byteOf(0, 3, 0), LoopEnvelopes.UNKNOWN);
        refused(x, "answered(47)", () -> x.answered(47), LoopEnvelopes.UNKNOWN);
    }

    private static void outside() {
        LoopEnvelopes x = oneOfAll();
        for (int n : new int[] {Integer.MIN_VALUE, Integer.MIN_VALUE + 1, -256, -2, -1, 9, 256, 257, Integer.MAX_VALUE}) {
            refused(x, "feed(1, " + n + ")", () -> x.feed(1, n), LoopEnvelopes.OUTSIDE);
            refused(x, "count(" + n + ")", () -> x.count(n), LoopEnvelopes.OUTSIDE);
            refused(x, "group(0, " + n + ")", () -> x.group(0, n), LoopEnvelopes.OUTSIDE);
            refused(x, "setOf(0, " + n + ")", () -> x.setOf(0, n), LoopEnvelopes.OUTSIDE);
            refused(x, "fault(0, 0, " + n + ")", () -> x.fault(0, 0, n), LoopEnvelopes.OUTSIDE);
            refused(x, "level(0, 0, " + n + ")", () -> x.level(0, 0, n), LoopEnvelopes.OUTSIDE);
            refused(x, "claim(0, 0, " + n + ")", () -> x.claim(0, 0, n), LoopEnvelopes.OUTSIDE);
            refused(x, "size(0, " + n + ")", () -> x.size(0, n < 0 ? n : -n), LoopEnvelopes.OUTSIDE);
            refused(x, "byteOf(0, " + n + ", 0)", () -> x.byteOf(0, n < 0 ? n : -n, 0), LoopEnvelopes.OUTSIDE);
        }
        int text = x.count(5);
        for (int n : new int[] {Integer.MIN_VALUE, -1, text + 1, 1200, Integer.MAX_VALUE}) {
            refused(x, "cut(" + n + ")", () -> x.cut(n), LoopEnvelopes.OUTSIDE);
        }
        for (int n : new int[] {Integer.MIN_VALUE, -1, 256, 257, Integer.MAX_VALUE}) {
            refused(x, "set(0, " + n + ")", () -> x.set(0, n), LoopEnvelopes.OUTSIDE);
        }
        // Right behind the last that each is asked for; the last itself is told.
        refused(x, "feed(1, 0)", () -> x.feed(1, 0), LoopEnvelopes.OUTSIDE);
        refused(x, "count(7)", () -> x.count(7), LoopEnvelopes.OUTSIDE);
        refused(x, "group(0, 4)", () -> x.group(0, 4), LoopEnvelopes.OUTSIDE);
        refused(x, "setOf(0, 7)", () -> x.setOf(0, 7), LoopEnvelopes.OUTSIDE);
        refused(x, "fault(0, 0, 2)", () -> x.fault(0, 0, 2), LoopEnvelopes.OUTSIDE);
        refused(x, "level(0, 0, 6)", () -> x.level(0, 0, 6), LoopEnvelopes.OUTSIDE);
        refused(x, "claim(0, 0, 5)", () -> x.claim(0, 0, 5), LoopEnvelopes.OUTSIDE);
        check.due("count(6)", x.count(6), 47);
        check.due("group(0, 3)", x.group(0, 3), 1);
        check.due("setOf(0, 6)", x.setOf(0, 6), 0);
        check.due("fault(0, 0, 1)", x.fault(0, 0, 1), 1);
        check.due("level(0, 1, 5)", x.level(0, 1, 5), 1);
        check.due("claim(0, 0, 4)", x.claim(0, 0, 4), 0);
    }

    /** All calls that ask for what was read, with whatever numbers, are refused with NOT. */
    private static void refusedWithNot(LoopEnvelopes x, String when) {
        for (int a : new int[] {0, -1, 9, Integer.MIN_VALUE, Integer.MAX_VALUE}) {
            for (int b : new int[] {0, -1, 9, Integer.MAX_VALUE}) {
                String with = " with " + a + ", " + b + " " + when;
                refused(x, "group" + with, () -> x.group(a, b), LoopEnvelopes.NOT);
                refused(x, "setOf" + with, () -> x.setOf(a, b), LoopEnvelopes.NOT);
                refused(x, "fault" + with, () -> x.fault(a, a, b), LoopEnvelopes.NOT);
                refused(x, "level" + with, () -> x.level(a, a, b), LoopEnvelopes.NOT);
                refused(x, "claim" + with, () -> x.claim(a, a, b), LoopEnvelopes.NOT);
                refused(x, "size" + with, () -> x.size(a, b), LoopEnvelopes.NOT);
                refused(x, "byteOf" + with, () -> x.byteOf(a, b, a), LoopEnvelopes.NOT);
            }
        }
        for (int what = 0; what <= 4; what++) {
            int asked = what;
            refused(x, "count(" + what + ") " + when, () -> x.count(asked), LoopEnvelopes.NOT);
        }
        refused(x, "answer() " + when, () -> x.answer(), LoopEnvelopes.NOT);
    }

    private static void not() {
        refusedWithNot(new LoopEnvelopes(), "on a new object");
        refusedWithNot(Check.with(Check.envelope(1, RIGHT)), "ahead of read()");
        LoopEnvelopes x = oneOfAll();
        x.feed('x', 1);
        check.due("it is TAKEN until the next read()", x.count(2), 1);
        check.due("read()", x.read(), 2);
        refusedWithNot(x, "behind a read() with a FINDING");
        x.cut(x.count(5) - 1);
        refusedWithNot(x, "ahead of the next read()");
        check.due("read() again", x.read(), 0);
        check.due("it is TAKEN again", x.count(2), 1);
    }

    private static void theFirstThatFits() {
        LoopEnvelopes x = oneOfAll();
        int beyond = 999;
        refused(x, "set: UNKNOWN, OUTSIDE", () -> x.set(x.count(5), 256), LoopEnvelopes.UNKNOWN);
        refused(x, "group: UNKNOWN, OUTSIDE", () -> x.group(beyond, beyond), LoopEnvelopes.UNKNOWN);
        refused(x, "setOf: UNKNOWN, OUTSIDE", () -> x.setOf(beyond, beyond), LoopEnvelopes.UNKNOWN);
        refused(x, "fault: UNKNOWN, OUTSIDE", () -> x.fault(0, beyond, beyond), LoopEnvelopes.UNKNOWN);
        refused(x, "level: UNKNOWN, OUTSIDE", () -> x.level(0, beyond, beyond), LoopEnvelopes.UNKNOWN);
        refused(x, "claim: UNKNOWN, OUTSIDE", () -> x.claim(0, beyond, beyond), LoopEnvelopes.UNKNOWN);
        refused(x, "size: UNKNOWN, OUTSIDE", () -> x.size(beyond, -1), LoopEnvelopes.UNKNOWN);
        refused(x, "size: UNKNOWN below 0, OUTSIDE", () -> x.size(-1, -1), LoopEnvelopes.UNKNOWN);
        refused(x, "byteOf: UNKNOWN, OUTSIDE", () -> x.byteOf(beyond, -1, 0), LoopEnvelopes.UNKNOWN);
        refused(x, "byteOf: UNKNOWN below 0, OUTSIDE", () -> x.byteOf(-1, -1, 0), LoopEnvelopes.UNKNOWN);
        LoopEnvelopes full = Check.with("x".repeat(1200));
        refused(full, "feed: OUTSIDE, FULL", () -> full.feed(0, 9), LoopEnvelopes.OUTSIDE);
        refused(full, "feed: OUTSIDE below 1, FULL", () -> full.feed(0, 0), LoopEnvelopes.OUTSIDE);
        refused(full, "feed: FULL", () -> full.feed(0, 1), LoopEnvelopes.FULL);
        // count() alone has OUTSIDE ahead of NOT.
        refused(full, "count: OUTSIDE, NOT", () -> full.count(7), LoopEnvelopes.OUTSIDE);
        refused(full, "count: OUTSIDE below 0, NOT", () -> full.count(-1), LoopEnvelopes.OUTSIDE);
        // A long answer that is there no more, as THE TEXT is no more TAKEN: NOT ahead of FULL.
        LoopEnvelopes y = Check.taken(Check.answering(22, 2001));
        check.due("answer()", y.answer(), LoopEnvelopes.FULL);
        y.feed('x', 1);
        y.read();
        refused(y, "answer: NOT, FULL", () -> y.answer(), LoopEnvelopes.NOT);
    }
}
