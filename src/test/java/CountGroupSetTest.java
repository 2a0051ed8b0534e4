/** Promises 7, 8 and 9: count, group, setOf. */
public final class CountGroupSetTest {
    private static final Check check = new Check();
    private static final String TWO_GROUPS = "OPN|123456789|^!GRP|AZ|0007!"
            + "SET|837|1!LVL|1||20|1!LVL|2|1|22|0!CLM|R|10!LIN|1|A|10!CLM|S|-2.5!CLM|T|-1.25!END|8|1!"
            + "SET|1|1!END|2|1!GEN|2|7!"
            + "GRP|BB|1!GEN|0|1!"
            + "GRP|CC|2!SET|837|9!END|2|9!GEN|1|2!CLS|3|123456789!\r\n";

    public static void main(String[] args) {
        counts();
        groups();
        sets();
        amounts();
        refusedWithoutTaking();
        check.end();
    }

    private static void counts() {
        LoopEnvelopes x = Check.taken(TWO_GROUPS);
        int[] want = {19, 3, 3, 1, 123456789, TWO_GROUPS.length(), 0};
        for (int what = 0; what < want.length; what++) {
            check.due("count(" + what + ")", x.count(what), want[what]);
        }
        check.due("count(-1)", x.count(-1), LoopEnvelopes.OUTSIDE);
        check.due("count(7)", x.count(7), LoopEnvelopes.OUTSIDE);
        check.due("answer()", x.answer() > 0 ? 1 : 0, 1);
        check.due("count(6)", x.count(6), x.answer());
        LoopEnvelopes empty = Check.taken("OPN*000000000*:~CLS*0*0~");
        int[] none = {1, 0, 0, 0, 0, 24, 0};
        for (int what = 0; what < none.length; what++) {
            check.due("empty: count(" + what + ")", empty.count(what), none[what]);
        }
    }

    private static void groups() {
        LoopEnvelopes x = Check.taken(TWO_GROUPS);
        int[][] want = {{256 * 'A' + 'Z', 7, 0, 2}, {256 * 'B' + 'B', 1, -1, 0}, {256 * 'C' + 'C', 2, 2, 1}};
        for (int g = 0; g < 3; g++) {
            for (int what = 0; what < 4; what++) {
                check.due("group(" + g + ", " + what + ")", x.group(g, what), want[g][what]);
            }
        }
        check.due("group(0, -1)", x.group(0, -1), LoopEnvelopes.OUTSIDE);
        check.due("group(0, 4)", x.group(0, 4), LoopEnvelopes.OUTSIDE);
        check.due("group(-1, 0)", x.group(-1, 0), LoopEnvelopes.UNKNOWN);
        check.due("group(3, 0)", x.group(3, 0), LoopEnvelopes.UNKNOWN);
        check.due("UNKNOWN ahead of OUTSIDE", x.group(3, 4), LoopEnvelopes.UNKNOWN);
        check.due("group(most, 0)", x.group(Integer.MAX_VALUE, 0), LoopEnvelopes.UNKNOWN);
    }

    private static void sets() {
        LoopEnvelopes x = Check.taken(TWO_GROUPS);
        // The second CLM is wrong in its SUM, and so is the third; the second SET is ILL.
        int[][] want = {{0, 1, 8, 2, 3, 2, 625}, {0, 9, 2, 0, 0, 1, 0}, {2, 15, 2, 0, 0, 0, 0}};
        LoopEnvelopes y = Check.taken(TWO_GROUPS.replace("S|-2.5!", "S|-2.50!"));
        for (int s = 0; s < 3; s++) {
            for (int what = 0; what < 7; what++) {
                check.due("setOf(" + s + ", " + what + ")", y.setOf(s, what), want[s][what]);
            }
        }
        check.due("the AMOUNT of an ILL CLM does not count", x.setOf(0, 6), 875);
        check.due("setOf(0, 7)", x.setOf(0, 7), LoopEnvelopes.OUTSIDE);
        check.due("setOf(0, -1)", x.setOf(0, -1), LoopEnvelopes.OUTSIDE);
        check.due("setOf(3, 0)", x.setOf(3, 0), LoopEnvelopes.UNKNOWN);
        check.due("setOf(-1, 0)", x.setOf(-1, 0), LoopEnvelopes.UNKNOWN);
        check.due("UNKNOWN ahead of OUTSIDE", x.setOf(3, 7), LoopEnvelopes.UNKNOWN);
    }

    private static void amounts() {
        // CLMS that have a FAULT count, if they are not ILL; LINS never do.
        String claims = "CLM*A*99999.99~CLM*B*99999.99~LIN*1*X*5~LVL*1**20*0~CLM*C*-0.01~CLM*D*1.~CLM*E*.50~CLM*F*00001~";
        LoopEnvelopes x = Check.taken(Check.envelope(1, Check.set(claims)));
        check.due("setOf(0, 6)", x.setOf(0, 6), 2 * 9999999 - 1 + 100);
        check.due("setOf(0, 4)", x.setOf(0, 4), 6);
        check.due("setOf(0, 3)", x.setOf(0, 3), 1);
    }

    private static void refusedWithoutTaking() {
        LoopEnvelopes x = Check.with(TWO_GROUPS + "X");
        check.due("read()", x.read(), 2);
        for (int what = 0; what <= 4; what++) {
            check.due("count(" + what + ")", x.count(what), LoopEnvelopes.NOT);
        }
        check.due("count(5)", x.count(5), TWO_GROUPS.length() + 1);
        check.due("count(6)", x.count(6), 0);
        check.due("OUTSIDE ahead of NOT", x.count(7), LoopEnvelopes.OUTSIDE);
        check.due("group(0, 0)", x.group(0, 0), LoopEnvelopes.NOT);
        check.due("NOT ahead of UNKNOWN", x.group(99, 0), LoopEnvelopes.NOT);
        check.due("NOT ahead of both", x.group(99, 9), LoopEnvelopes.NOT);
        check.due("setOf(0, 9)", x.setOf(0, 9), LoopEnvelopes.NOT);
        check.due("setOf(99, 0)", x.setOf(99, 0), LoopEnvelopes.NOT);
    }
}
