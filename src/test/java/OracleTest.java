/** All promises, against a second reader written otherwise, over many made texts: right ones, and ones made wrong. */
public final class OracleTest {
    private static final Check check = new Check();
    private static final Texts texts = new Texts(20261119L);
    private static final int TEXTS = 12000;
    private static final int[] findings = new int[5];
    private static final int[] faults = new int[7];

    public static void main(String[] args) {
        int right = 0;
        int full = 0;
        for (int i = 0; i < TEXTS; i++) {
            String text = texts.next();
            LoopEnvelopes x = Check.with(text);
            Oracle o = new Oracle(text);
            findings[o.finding]++;
            check.due("read() of " + Check.shown(text), x.read(), o.finding);
            check.due("where() of " + Check.shown(text), x.where(), o.place);
            if (o.finding == 0) {
                compare(x, o, "of " + Check.shown(text));
                right += o.right(0, o.sets.size());
                full += o.answer().length() > 2000 ? 1 : 0;
            }
        }
        // The made texts are of no use where they miss a kind.
        for (int i = 0; i < findings.length; i++) {
            check.due("texts of FINDING " + i + " are enough", findings[i] > 100 ? 1 : 0, 1);
        }
        for (int i = 1; i < faults.length; i++) {
            check.due("FAULTS " + i + " are enough", faults[i] > 100 ? 1 : 0, 1);
        }
        check.due("SETS that are RIGHT are enough", right > 100 ? 1 : 0, 1);
        check.due("answers that are too long are enough", full > 50 ? 1 : 0, 1);
        check.end();
    }

    private static void compare(LoopEnvelopes x, Oracle o, String of) {
        check.due("count(0) " + of, x.count(0), o.segments.size());
        check.due("count(1) " + of, x.count(1), o.groups.size());
        check.due("count(2) " + of, x.count(2), o.sets.size());
        check.due("count(3) " + of, x.count(3), o.right(0, o.sets.size()));
        check.due("count(4) " + of, x.count(4), o.number);
        for (int g = 0; g < o.groups.size(); g++) {
            Oracle.Group group = o.groups.get(g);
            String code = group.head.get(1);
            int[] want = {256 * code.charAt(0) + code.charAt(1), group.number, group.firstSet, group.sets};
            for (int what = 0; what < 4; what++) {
                check.due("group(" + g + ", " + what + ") " + of, x.group(g, what), want[what]);
            }
        }
        for (int s = 0; s < o.sets.size(); s++) {
            compareSet(x, o.sets.get(s), s, of);
        }
        compareElements(x, o, of);
        String answer = o.answer();
        boolean full = answer.length() > 2000;
        check.due("answer() " + of, x.answer(), full ? LoopEnvelopes.FULL : answer.length());
        check.due("THE ANSWER " + of, Check.answered(x), full ? "" : answer);
    }

    private static void compareSet(LoopEnvelopes x, Oracle.SetOf set, int s, String of) {
        long[] want = {set.group, set.first, set.segments.size(), set.levels.size(), set.claims.size(),
            set.faults.size(), set.amounts};
        for (int what = 0; what < want.length; what++) {
            check.due("setOf(" + s + ", " + what + ") " + of, x.setOf(s, what), want[what]);
        }
        for (int k = 0; k <= set.faults.size(); k++) {
            for (int what = 0; what < 2; what++) {
                int due = k == set.faults.size() ? LoopEnvelopes.UNKNOWN : set.faults.get(k)[what];
                check.due("fault(" + s + ", " + k + ", " + what + ") " + of, x.fault(s, k, what), due);
            }
            if (k < set.faults.size()) {
                faults[set.faults.get(k)[1]]++;
            }
        }
        for (int k = 0; k < set.levels.size(); k++) {
            Oracle.Level level = set.levels.get(k);
            int[] due = {level.place, level.id, level.parent, level.kind, level.more, level.depth};
            for (int what = 0; what < due.length; what++) {
                check.due("level(" + s + ", " + k + ", " + what + ") " + of, x.level(s, k, what), due[what]);
            }
        }
        for (int k = 0; k < set.claims.size(); k++) {
            Oracle.Claim claim = set.claims.get(k);
            long[] due = {claim.place, claim.amount, claim.level, claim.lines, claim.sum};
            for (int what = 0; what < due.length; what++) {
                check.due("claim(" + s + ", " + k + ", " + what + ") " + of, x.claim(s, k, what), due[what]);
            }
        }
    }

    private static void compareElements(LoopEnvelopes x, Oracle o, String of) {
        for (int k = 0; k < o.segments.size(); k++) {
            for (int e = 0; e < 10; e++) {
                String element = e < o.segments.get(k).size() ? o.segments.get(k).get(e) : null;
                check.due("size(" + k + ", " + e + ") " + of, x.size(k, e), element == null ? -1 : element.length());
                for (int i = 0; element != null && i <= element.length(); i++) {
                    int due = i == element.length() ? LoopEnvelopes.UNKNOWN : element.charAt(i);
                    check.due("byteOf(" + k + ", " + e + ", " + i + ") " + of, x.byteOf(k, e, i), due);
                }
            }
        }
    }
}
