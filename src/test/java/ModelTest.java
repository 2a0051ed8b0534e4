/** All promises: runs of 512 calls on one object, each answer compared with what is due in the state it is asked in. */
public final class ModelTest {
    private static final Check check = new Check();
    private static final Texts texts = new Texts(20261120L);
    private static final int RUNS = 1500, MOST_CALLS = 512;
    // The numbers of the calls that ask() knows.
    private static final int FEED = 0, SET = 1, CUT = 2, READ = 3, ANSWER = 4, TURN = 5, ANSWERED = 6, WHERE = 7;
    private static final int COUNT = 8, GROUP = 9, SET_OF = 10, FAULT = 11, LEVEL = 12, CLAIM = 13, SIZE = 14, BYTE_OF = 15;
    private static final String[] NAMES = {"feed", "set", "cut", "read", "answer", "turn", "answered", "where", "count",
        "group", "setOf", "fault", "level", "claim", "size", "byteOf"};
    private static final int CALLS = NAMES.length;
    private static final int[] EDGES = {Integer.MIN_VALUE, -2, -1, 1199, 1200, 1201, 2000, Integer.MAX_VALUE};

    // How often each call was to be refused by each of UNKNOWN .. FULL, and how often by none.
    private static final int[][] told = new int[CALLS][5];
    private static int takenAgain = 0;

    private LoopEnvelopes x = new LoopEnvelopes();
    private Model model = new Model();
    private int calls = 0;
    private int timesTaken = 0;

    public static void main(String[] args) {
        for (int run = 0; run < RUNS; run++) {
            new ModelTest().run();
        }
        // The runs are of no use where they miss a kind: the letters are of UNKNOWN, OUTSIDE, NOT, FULL.
        String[] refusals = {"OF", "UO", "O", "", "NF", "NF", "U", "", "ON", "UON", "UON", "UON", "UON", "UON", "UON", "UON"};
        for (int call = 0; call < CALLS; call++) {
            for (char refusal : refusals[call].toCharArray()) {
                boolean often = told[call]["UONF".indexOf(refusal)] > 10;
                check.due(NAMES[call] + " refused by " + refusal + " often enough", often ? 1 : 0, 1);
            }
            check.due(NAMES[call] + " not refused often enough", told[call][4] > 1000 ? 1 : 0, 1);
        }
        check.due("texts that are TAKEN behind others are enough", takenAgain > 1000 ? 1 : 0, 1);
        check.end();
    }

    private void run() {
        while (calls < MOST_CALLS) {
            refill();
            for (int round = texts.below(8); round >= 0; round--) {
                for (int i = 0; i < 12; i++) {
                    question();
                }
                disturb();
            }
        }
    }

    private void refill() {
        ask(CUT, 0, 0, 0, 0);
        String text = texts.next();
        int room = Math.min(text.length(), 8 * (MOST_CALLS - calls));
        for (int from = 0; from < room; from += 8) {
            int n = Math.min(8, room - from);
            long w = -1;
            for (int i = 0; i < n; i++) {
                w = (w << 8) | text.charAt(from + i);
            }
            ask(FEED, n, 0, 0, w);
        }
        ask(READ, 0, 0, 0, 0);
    }

    private void disturb() {
        int length = model.count(5);
        switch (texts.below(8)) {
            case 0: ask(ANSWER, 0, 0, 0, 0); break;
            case 1: ask(TURN, 0, 0, 0, 0); break;
            case 2: ask(CUT, length - texts.below(2), 0, 0, 0); break;
            case 3: ask(FEED, near(9), 0, 0, texts.seldom(2) ? 0x0A0D0A0D0A0D0A0DL : -7L); break;
            case 4: ask(READ, 0, 0, 0, 0); break;
            case 5: setAndSetBack(near(length), texts.seldom(2) ? near(256) : texts.one("*", ":", "~", "1", "A").charAt(0)); break;
            default: ask(texts.below(CALLS), near(1300), near(300), near(9), texts.below(1 << 30)); break;
        }
    }

    private void setAndSetBack(int i, int b) {
        int was = model.byteAt(i);
        ask(SET, i, b, 0, 0);
        question();
        ask(READ, 0, 0, 0, 0);
        question();
        ask(SET, i, was, 0, 0);
        question();
        ask(READ, 0, 0, 0, 0);
    }

    /** Mostly one of n from 0, and now and then n or a number beyond. */
    private int near(int n) {
        return texts.seldom(12) ? EDGES[texts.below(EDGES.length)] : texts.seldom(12) ? n : texts.below(Math.max(n, 1));
    }

    private void question() {
        int call = ANSWERED + texts.below(CALLS - ANSWERED);
        int s = near(model.count(2));
        int k = near(model.count(0));
        switch (call) {
            case ANSWERED: ask(call, near(model.count(6)), 0, 0, 0); break;
            case COUNT: ask(call, near(7), 0, 0, 0); break;
            case GROUP: ask(call, near(model.count(1)), near(4), 0, 0); break;
            case SET_OF: ask(call, s, near(7), 0, 0); break;
            case FAULT: ask(call, s, near(model.setOf(s, 5)), near(2), 0); break;
            case LEVEL: ask(call, s, near(model.setOf(s, 3)), near(6), 0); break;
            case CLAIM: ask(call, s, near(model.setOf(s, 4)), near(5), 0); break;
            case SIZE: ask(call, k, near(9), 0, 0); break;
            case BYTE_OF: ask(call, k, near(4), near(4), 0); break;
            default: ask(call, 0, 0, 0, 0); break;
        }
    }

    private void ask(int call, int a, int b, int c, long w) {
        if (calls >= MOST_CALLS) {
            return;
        }
        calls++;
        int due = due(call, a, b, c, w);
        check.due(NAMES[call] + " of " + a + ", " + b + ", " + c + ", " + w, got(call, a, b, c, w), due);
        told[call][due >= -5 && due <= -2 ? -2 - due : 4]++;
        if (call == READ && due == 0) {
            timesTaken++;
            takenAgain += timesTaken > 1 ? 1 : 0;
        }
    }

    private int due(int call, int a, int b, int c, long w) {
        switch (call) {
            case FEED: return model.feed(w, a);
            case SET: return model.set(a, b);
            case CUT: return model.cut(a);
            case READ: return model.read();
            case ANSWER: return model.answer();
            case TURN: return model.turn();
            case ANSWERED: return model.answered(a);
            case WHERE: return model.where();
            case COUNT: return model.count(a);
            case GROUP: return model.group(a, b);
            case SET_OF: return model.setOf(a, b);
            case FAULT: return model.fault(a, b, c);
            case LEVEL: return model.level(a, b, c);
            case CLAIM: return model.claim(a, b, c);
            case SIZE: return model.size(a, b);
            default: return model.byteOf(a, b, c);
        }
    }

    private int got(int call, int a, int b, int c, long w) {
        switch (call) {
            case FEED: return x.feed(w, a);
            case SET: return x.set(a, b);
            case CUT: return x.cut(a);
            case READ: return x.read();
            case ANSWER: return x.answer();
            case TURN: return x.turn();
            case ANSWERED: return x.answered(a);
            case WHERE: return x.where();
            case COUNT: return x.count(a);
            case GROUP: return x.group(a, b);
            case SET_OF: return x.setOf(a, b);
            case FAULT: return x.fault(a, b, c);
            case LEVEL: return x.level(a, b, c);
            case CLAIM: return x.claim(a, b, c);
            case SIZE: return x.size(a, b);
            default: return x.byteOf(a, b, c);
        }
    }
}
