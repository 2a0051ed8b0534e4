import java.util.Random;

/** All promises, against a second reader written otherwise, over many made texts: right ones, and ones made wrong. */
public final class OracleTest {
    private static final Check check = new Check();
    private static final Random random = new Random(20261119L);
    private static final int TEXTS = 12000;
    private static final int[] findings = new int[5];
    private static final int[] faults = new int[7];

    public static void main(String[] args) {
        int right = 0;
        int full = 0;
        for (int i = 0; i < TEXTS; i++) {
            String text = makeText();
            if (text.length() > 1200) {
                text = text.substring(0, 1200);
            }
            LoopEnvelopes x = Check.with(text);
            Oracle o = new Oracle(text);
            findings[o.finding]++;
            check.due("read() of " + Check.shown(text), x.read(), o.finding);
            check.due("where() of " + Check.shown(text), x.where(), o.place);
            if (o.finding == 0) {
                compare(x, o, "of " + Check.shown(text));
                right += o.right(0, o.sets.size());
                full += o.answer().length() > 2000 ? 1 : 0;
            }
        }
        // The made texts are of no use where they miss a kind.
        for (int i = 0; i < findings.length; i++) {
            check.due("texts of FINDING " + i + " are enough", findings[i] > 100 ? 1 : 0, 1);
        }
        for (int i = 1; i < faults.length; i++) {
            check.due("FAULTS " + i + " are enough", faults[i] > 100 ? 1 : 0, 1);
        }
        check.due("SETS that are RIGHT are enough", right > 100 ? 1 : 0, 1);
        check.due("answers that are too long are enough", full > 50 ? 1 : 0, 1);
        check.end();
    }

    private static void compare(LoopEnvelopes x, Oracle o, String of) {
        check.due("count(0) " + of, x.count(0), o.segments.size());
        check.due("count(1) " + of, x.count(1), o.groups.size());
        check.due("count(2) " + of, x.count(2), o.sets.size());
        check.due("count(3) " + of, x.count(3), o.right(0, o.sets.size()));
        check.due("count(4) " + of, x.count(4), o.number);
        for (int g = 0; g < o.groups.size(); g++) {
            Oracle.Group group = o.groups.get(g);
            String code = group.head.get(1);
            int[] want = {256 * code.charAt(0) + code.charAt(1), group.number, group.firstSet, group.sets};
            for (int what = 0; what < 4; what++) {
                check.due("group(" + g + ", " + what + ") " + of, x.group(g, what), want[what]);
            }
        }
        for (int s = 0; s < o.sets.size(); s++) {
            compareSet(x, o.sets.get(s), s, of);
        }
        compareElements(x, o, of);
        String answer = o.answer();
        boolean full = answer.length() > 2000;
        check.due("answer() " + of, x.answer(), full ? LoopEnvelopes.FULL : answer.length());
        check.due("THE ANSWER " + of, Check.answered(x), full ? "" : answer);
    }

    private static void compareSet(LoopEnvelopes x, Oracle.SetOf set, int s, String of) {
        long[] want = {set.group, set.first, set.segments.size(), set.levels.size(), set.claims.size(),
            set.faults.size(), set.amounts};
        for (int what = 0; what < want.length; what++) {
            check.due("setOf(" + s + ", " + what + ") " + of, x.setOf(s, what), want[what]);
        }
        for (int k = 0; k <= set.faults.size(); k++) {
            for (int what = 0; what < 2; what++) {
                int due = k == set.faults.size() ? LoopEnvelopes.UNKNOWN : set.faults.get(k)[what];
                check.due("fault(" + s + ", " + k + ", " + what + ") " + of, x.fault(s, k, what), due);
            }
            if (k < set.faults.size()) {
                faults[set.faults.get(k)[1]]++;
            }
        }
        for (int k = 0; k < set.levels.size(); k++) {
            Oracle.Level level = set.levels.get(k);
            int[] due = {level.place, level.id, level.parent, level.kind, level.more, level.depth};
            for (int what = 0; what < due.length; what++) {
                check.due("level(" + s + ", " + k + ", " + what + ") " + of, x.level(s, k, what), due[what]);
            }
        }
        for (int k = 0; k < set.claims.size(); k++) {
            Oracle.Claim claim = set.claims.get(k);
            long[] due = {claim.place, claim.amount, claim.level, claim.lines, claim.sum};
            for (int what = 0; what < due.length; what++) {
                check.due("claim(" + s + ", " + k + ", " + what + ") " + of, x.claim(s, k, what), due[what]);
            }
        }
    }

    private static void compareElements(LoopEnvelopes x, Oracle o, String of) {
        for (int k = 0; k < o.segments.size(); k++) {
            for (int e = 0; e < 10; e++) {
                String element = e < o.segments.get(k).size() ? o.segments.get(k).get(e) : null;
                check.due("size(" + k + ", " + e + ") " + of, x.size(k, e), element == null ? -1 : element.length());
                for (int i = 0; element != null && i <= element.length(); i++) {
                    int due = i == element.length() ? LoopEnvelopes.UNKNOWN : element.charAt(i);
                    check.due("byteOf(" + k + ", " + e + ", " + i + ") " + of, x.byteOf(k, e, i), due);
                }
            }
        }
    }

    private static boolean seldom(int n) {
        return random.nextInt(n) == 0;
    }

    private static String one(String... of) {
        return of[random.nextInt(of.length)];
    }

    private static String makeText() {
        String signs = "*:~+/'|^!#$%&";
        int from = seldom(2) ? 0 : random.nextInt(signs.length() - 2);
        wrongness = seldom(3) ? 1000000 : 3 + random.nextInt(60);
        StringBuilder text = new StringBuilder("OPN*000000042*:~");
        int groups = seldom(10) ? random.nextInt(30) : random.nextInt(3);
        boolean crowd = seldom(12);
        for (int g = 0; g < groups; g++) {
            text.append("GRP*").append((char) ('A' + random.nextInt(26))).append("C*").append(g).append('~');
            int sets = crowd && g == 0 ? 19 + random.nextInt(6) : random.nextInt(3);
            for (int s = 0; s < sets; s++) {
                addSet(text, crowd);
            }
            text.append("GEN*").append(seldom(100) ? 9 : sets).append('*').append(seldom(100) ? "" : "00").append(g).append('~');
            text.append(seldom(4) ? "\r\n" : "");
        }
        text.append("CLS*").append(seldom(100) ? 9 : groups).append("*42~").append(seldom(2) ? "\n" : "").append(seldom(50) ? "X" : "");
        if (seldom(3)) {
            spoil(text);
        }
        String told = text.toString();
        return told.replace('*', (char) 1).replace(':', (char) 2).replace('~', (char) 3).replace((char) 1, signs.charAt(from))
                .replace((char) 2, signs.charAt(from + 1)).replace((char) 3, signs.charAt(from + 2));
    }

    private static void spoil(StringBuilder text) {
        for (int i = random.nextInt(3); i >= 0 && text.length() > 0; i--) {
            int at = seldom(4) ? random.nextInt(Math.min(16, text.length())) : random.nextInt(text.length());
            char sign = seldom(6) ? (char) random.nextInt(256) : "*:~~*0125ALVN-.\n ".charAt(random.nextInt(17));
            switch (random.nextInt(seldom(3) ? 6 : 3)) {
                case 0: text.setCharAt(at, sign); break;
                case 1: text.insert(at, sign); break;
                case 2: text.deleteCharAt(at); break;
                case 3: text.setLength(at); break;
                case 4: text.insert(at, seldom(2) ? "*1*2*3*4*5" : "ABCDEFGHIJ"); break;
                default: text.insert(at, text.substring(0, Math.min(text.length(), 40))); break;
            }
        }
    }

    private static int wrongness = 10;

    private static boolean wrong() {
        return seldom(wrongness);
    }

    private static int levels;
    private static int segments;

    private static void addSet(StringBuilder text, boolean crowd) {
        if (crowd && !seldom(10)) {
            addUnnamed(text);
            return;
        }
        text.append("SET*").append(wrong() ? one("83", "x", "8370", "") : "837").append(wrong() ? "" : "*");
        text.append(wrong() ? "x" : "1").append('~');
        segments = 2;
        levels = 0;
        for (int b = crowd ? 0 : random.nextInt(4); b > 0; b--) {
            addTree(text);
        }
        text.append("END*").append(wrong() ? 1 : segments).append('*').append(wrong() ? "x" : wrong() ? 2 : 1).append('~');
    }

    /** Nothing but FAULTS, for long answers. */
    private static void addUnnamed(StringBuilder text) {
        text.append("SET~");
        for (int i = 0; i < 3; i++) {
            text.append("ABCDEFGHIJKL", 0, 6 + random.nextInt(7)).append('~');
        }
        text.append("END~");
    }

    private static void addTree(StringBuilder text) {
        int top = levels + 1;
        boolean below = !seldom(3);
        addLevel(text, "", 20, below);
        if (!below) {
            return;
        }
        int middle = levels + 1;
        boolean deeper = seldom(2);
        addLevel(text, "" + top, 22, deeper);
        addNames(text);
        if (deeper) {
            addLevel(text, "" + middle, 23, false);
            addNames(text);
        }
        for (int c = random.nextInt(3); c > 0; c--) {
            addClaim(text);
        }
    }

    private static void addLevel(StringBuilder text, String parent, int kind, boolean more) {
        levels++;
        segments++;
        int id = wrong() ? levels + random.nextInt(3) - 1 : levels;
        String told = seldom(9) ? "0" + id : "" + id;
        text.append("LVL*").append(wrong() ? "" : told).append('*').append(wrong() ? one("", "0", "1", "2", "3", "x") : parent).append('*');
        text.append(wrong() ? one("20", "21", "22", "23", "") : "" + kind).append('*').append(wrong() ? one("0", "1", "2", "") : more ? "1" : "0");
        text.append(wrong() ? "*" : "").append('~');
    }

    private static void addNames(StringBuilder text) {
        for (int i = random.nextInt(3); i > 0; i--) {
            segments++;
            text.append(wrong() ? one("ZZZ", "NAM", "LIN", "", "\nNAM", "CLM") : "NAM").append("*A:B*").append(wrong() ? "" : "C").append('~');
        }
    }

    private static String amount(int hundredths) {
        String sign = hundredths < 0 ? "-" : "";
        int size = Math.abs(hundredths);
        String rest = size % 100 == 0 && seldom(2) ? "" : String.format(".%02d", size % 100);
        return sign + size / 100 + rest;
    }

    private static void addClaim(StringBuilder text) {
        int lines = random.nextInt(4);
        int[] of = new int[lines];
        int sum = 0;
        for (int i = 0; i < lines; i++) {
            of[i] = random.nextInt(seldom(3) ? 900000 : 300) - 100;
            sum += of[i];
        }
        segments++;
        text.append("CLM*").append(wrong() ? "" : "R").append('*').append(wrong() ? one("", "-", "1.5", "x") : amount(wrong() ? sum + 1 : sum)).append('~');
        for (int i = 0; i < lines; i++) {
            segments++;
            if (wrong()) {
                segments++;
                text.append(one("NAM*A*B", "ZZZ", "", "LVL*1**20*0", "LIN")).append('~');
            }
            text.append("LIN*").append(wrong() ? random.nextInt(5) : i + 1).append('*');
            text.append(wrong() ? one("", "ABCDEF", ":", ":A", "A:B:C", "P:P") : one("A", "AB:1", "ABCDE:XY", "A:", "P")).append('*');
            text.append(wrong() ? one("", "-", "1.5", "x", "100000", ".50") : amount(of[i])).append('~');
        }
    }
}
