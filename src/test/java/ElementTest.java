/** Promises 13 and 14: size and byteOf. */
public final class ElementTest {
    private static final Check check = new Check();

    public static void main(String[] args) {
        elements();
        everyByte();
        refused();
        check.end();
    }

    private static void elements() {
        LoopEnvelopes x = Check.taken(Check.envelope(1,
                "SET*837*1~\r\nA\n*B:C**\r*123456789012*:*6*7*~~\nLVL*~END*5*1~"));
        String[] want = {"A\n", "B:C", "", "\r", "123456789012", ":", "6", "7", ""};
        for (int e = 0; e < want.length; e++) {
            check.due("size(2, " + e + ")", x.size(2, e), want[e].length());
            check.due("bytes of (2, " + e + ")", Check.element(x, 2, e), want[e]);
        }
        check.due("size(2, 9)", x.size(2, 9), LoopEnvelopes.NONE);
        check.due("size of an empty NAME", x.size(3, 0), 0);
        check.due("no ELEMENT behind it", x.size(3, 1), LoopEnvelopes.NONE);
        check.due("NAME behind a break", Check.element(x, 4, 0), "LVL");
        check.due("an empty ELEMENT", x.size(4, 1), 0);
        check.due("no second", x.size(4, 2), LoopEnvelopes.NONE);
        check.due("the first SEGMENT of all", Check.element(x, 0, 0) + Check.element(x, 0, 1) + Check.element(x, 0, 2), "GRPHC7");
        check.due("the last SEGMENT of all", Check.element(x, 7, 0) + Check.element(x, 7, 1) + Check.element(x, 7, 2), "CLS142");
    }

    private static void everyByte() {
        for (int b = 0; b < 256; b++) {
            if (b != '*' && b != '~') {
                LoopEnvelopes x = Check.taken(Check.envelope(1, Check.set("X*" + (char) b + "~")));
                check.due("byteOf(2, 1, 0) of " + b, x.byteOf(2, 1, 0), b);
            }
        }
    }

    private static void refused() {
        LoopEnvelopes x = Check.taken(Check.envelope(1, Check.set("A**B~")));
        check.due("size(6, 0)", x.size(6, 0), LoopEnvelopes.UNKNOWN);
        check.due("size(5, 0)", x.size(5, 0), 3);
        check.due("size(-1, 0)", x.size(-1, 0), LoopEnvelopes.UNKNOWN);
        check.due("size(2, -1)", x.size(2, -1), LoopEnvelopes.OUTSIDE);
        check.due("size: UNKNOWN ahead of OUTSIDE", x.size(6, -1), LoopEnvelopes.UNKNOWN);
        check.due("size(2, most)", x.size(2, Integer.MAX_VALUE), LoopEnvelopes.NONE);
        check.due("byteOf(2, 2, 0)", x.byteOf(2, 2, 0), 'B');
        check.due("byteOf(2, 2, 1)", x.byteOf(2, 2, 1), LoopEnvelopes.UNKNOWN);
        check.due("byteOf(2, 2, -1)", x.byteOf(2, 2, -1), LoopEnvelopes.UNKNOWN);
        check.due("byteOf(2, 1, 0)", x.byteOf(2, 1, 0), LoopEnvelopes.UNKNOWN);
        check.due("byteOf(2, 3, 0)", x.byteOf(2, 3, 0), LoopEnvelopes.UNKNOWN);
        check.due("byteOf(2, most, most)", x.byteOf(2, Integer.MAX_VALUE, Integer.MAX_VALUE), LoopEnvelopes.UNKNOWN);
        check.due("byteOf(2, -1, 0)", x.byteOf(2, -1, 0), LoopEnvelopes.OUTSIDE);
        check.due("byteOf(2, -1, 99)", x.byteOf(2, -1, 99), LoopEnvelopes.OUTSIDE);
        check.due("byteOf(6, -1, 0)", x.byteOf(6, -1, 0), LoopEnvelopes.UNKNOWN);
        check.due("byteOf(-1, 0, 0)", x.byteOf(-1, 0, 0), LoopEnvelopes.UNKNOWN);
        x.cut(0);
        x.read();
        check.due("size without taking", x.size(9, -1), LoopEnvelopes.NOT);
        check.due("byteOf without taking", x.byteOf(9, -1, 0), LoopEnvelopes.NOT);
    }
}
