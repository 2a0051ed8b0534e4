import java.util.Random;

/** Any calls with any arguments in any state: none throws, the same calls answer the same, refused ones change nothing. */
public final class AnyCallsTest {
    private static final Check check = new Check();
    private static final Random random = new Random(17L);
    // The numbers of the calls that ask() knows: from FIRST_QUESTION on they change nothing.
    private static final int ANSWER = 4, FIRST_QUESTION = 6, CALLS = 16;
    private static final int[] EDGES = {Integer.MIN_VALUE, -1200, -1, 0, 1, 2, 3, 4, 5, 6, 7, 8, 9, 23, 24, 119, 120, 121,
        255, 256, 1199, 1200, 1201, 1999, 2000, Integer.MAX_VALUE - 1, Integer.MAX_VALUE};
    private static final String[] PIECES = {"OPN*000000042*:~", "GRP*HC*7~", "SET*837*1~", "SET~", "LVL*1**20*1~",
        "LVL*2*1*22*0~", "NAM*A*B~", "CLM*R*1~", "LIN*1*A:B*1~", "END*2*1~", "GEN*1*7~", "CLS*1*42~", "~", "X~", "\n"};

    public static void main(String[] args) {
        for (int run = 0; run < 400; run++) {
            run(run);
        }
        check.end();
    }

    private static void run(int run) {
        LoopEnvelopes x = new LoopEnvelopes();
        LoopEnvelopes y = new LoopEnvelopes();
        if (run % 2 == 0) {
            String text = Check.envelope(2, Check.set("LVL*1**20*1~LVL*2*1*22*0~CLM*R*1~LIN*1*A*1~") + "SET~~LVL~CLM~LIN~END~");
            Check.append(x, text);
            Check.append(y, text);
        }
        for (int i = 0; i < 400; i++) {
            if (random.nextInt(8) == 0) {
                feedPiece(x, y);
                continue;
            }
            int call = random.nextInt(CALLS);
            int a = some();
            int b = some();
            int c = some();
            long w = random.nextLong();
            long before = state(x);
            int got = ask(x, call, a, b, c, w);
            String told = "call " + call + " (" + a + ", " + b + ", " + c + ")";
            check.due(told + " again", ask(y, call, a, b, c, w), got);
            boolean refused = got <= LoopEnvelopes.UNKNOWN && got >= LoopEnvelopes.FULL && call != ANSWER;
            if (refused || call >= FIRST_QUESTION) {
                check.due("the state behind " + told, state(x), before);
            }
        }
    }

    private static void feedPiece(LoopEnvelopes x, LoopEnvelopes y) {
        String piece = PIECES[random.nextInt(PIECES.length)];
        if (x.count(5) + piece.length() <= 1200) {
            Check.append(x, piece);
            Check.append(y, piece);
        }
    }

    private static int some() {
        return random.nextInt(3) == 0 ? random.nextInt(130) - 2 : EDGES[random.nextInt(EDGES.length)];
    }

    private static long state(LoopEnvelopes x) {
        long state = x.where();
        for (int what = 0; what < 7; what++) {
            state = state * 31 + x.count(what);
        }
        return state * 31 + x.setOf(0, 5) * 7L + x.answered(0) + x.answered(20);
    }

    private static int ask(LoopEnvelopes x, int call, int a, int b, int c, long w) {
        switch (call) {
            case 0: return x.feed(w, a);
            case 1: return x.set(a, b);
            // To nothing it is seldom cut, or most texts would be empty.
            case 2: return a == 0 && b != 0 ? x.count(5) : x.cut(a);
            case 3: return x.read();
            case ANSWER: return x.answer();
            case 5: return x.turn();
            case FIRST_QUESTION: return x.where();
            case 7: return x.count(a);
            case 8: return x.group(a, b);
            case 9: return x.setOf(a, b);
            case 10: return x.fault(a, b, c);
            case 11: return x.level(a, b, c);
            case 12: return x.claim(a, b, c);
            case 13: return x.size(a, b);
            case 14: return x.byteOf(a, b, c);
            default: return x.answered(a);
        }
    }
}
