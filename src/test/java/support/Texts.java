import java.util.Random;

/** Makes texts: right ones, and ones made wrong in one place or another, with many kinds of separators. */
final class Texts {
    private final Random random;
    // How seldom something is wrong in the text that is made.
    private int wrongness = 10;
    // Of the SET that is made.
    private int levels;
    private int segments;

    Texts(long seed) {
        random = new Random(seed);
    }

    /** A text that fits: what is made longer is cut. */
    String next() {
        String text = makeText();
        return text.length() > 1200 ? text.substring(0, 1200) : text;
    }

    /** From 0 to n, without n. */
    int below(int n) {
        return random.nextInt(n);
    }

    boolean seldom(int n) {
        return random.nextInt(n) == 0;
    }

    String one(String... of) {
        return of[random.nextInt(of.length)];
    }

    private String makeText() {
        String signs = "*:~+/'|^!#$%&";
        int from = seldom(2) ? 0 : random.nextInt(signs.length() - 2);
        wrongness = seldom(3) ? 1000000 : 3 + random.nextInt(60);
        StringBuilder text = new StringBuilder("OPN*000000042*:~");
        int groups = seldom(10) ? random.nextInt(30) : random.nextInt(3);
        boolean crowd = seldom(12);
        for (int g = 0; g < groups; g++) {
            text.append("GRP*").append((char) ('A' + random.nextInt(26))).append("C*").append(g).append('~');
            int sets = crowd && g == 0 ? 19 + random.nextInt(6) : random.nextInt(3);
            for (int s = 0; s < sets; s++) {
                addSet(text, crowd);
            }
            text.append("GEN*").append(seldom(100) ? 9 : sets).append('*').append(seldom(100) ? "" : "00").append(g).append('~');
            text.append(seldom(4) ? "\r\n" : "");
        }
        text.append("CLS*").append(seldom(100) ? 9 : groups).append("*42~").append(seldom(2) ? "\n" : "").append(seldom(50) ? "X" : "");
        if (seldom(3)) {
            spoil(text);
        }
        String told = text.toString();
        return told.replace('*', (char) 1).replace(':', (char) 2).replace('~', (char) 3).replace((char) 1, signs.charAt(from))
                .replace((char) 2, signs.charAt(from + 1)).replace((char) 3, signs.charAt(from + 2));
    }

    private void spoil(StringBuilder text) {
        for (int i = random.nextInt(3); i >= 0 && text.length() > 0; i--) {
            int at = seldom(4) ? random.nextInt(Math.min(16, text.length())) : random.nextInt(text.length());
            char sign = seldom(6) ? (char) random.nextInt(256) : "*:~~*0125ALVN-.\n ".charAt(random.nextInt(17));
            switch (random.nextInt(seldom(3) ? 6 : 3)) {
                case 0: text.setCharAt(at, sign); break;
                case 1: text.insert(at, sign); break;
                case 2: text.deleteCharAt(at); break;
                case 3: text.setLength(at); break;
                case 4: text.insert(at, seldom(2) ? "*1*2*3*4*5" : "ABCDEFGHIJ"); break;
                default: text.insert(at, text.substring(0, Math.min(text.length(), 40))); break;
            }
        }
    }

    private boolean wrong() {
        return seldom(wrongness);
    }

    private void addSet(StringBuilder text, boolean crowd) {
        if (crowd && !seldom(10)) {
            addUnnamed(text);
            return;
        }
        text.append("SET*").append(wrong() ? one("83", "x", "8370", "") : "837").append(wrong() ? "" : "*");
        text.append(wrong() ? "x" : "1").append('~');
        segments = 2;
        levels = 0;
        for (int b = crowd ? 0 : random.nextInt(4); b > 0; b--) {
            addTree(text);
        }
        text.append("END*").append(wrong() ? 1 : segments).append('*').append(wrong() ? "x" : wrong() ? 2 : 1).append('~');
    }

    /** Nothing but FAULTS, for long answers. */
    private void addUnnamed(StringBuilder text) {
        text.append("SET~");
        for (int i = 0; i < 3; i++) {
            text.append("ABCDEFGHIJKL", 0, 6 + random.nextInt(7)).append('~');
        }
        text.append("END~");
    }

    private void addTree(StringBuilder text) {
        int top = levels + 1;
        boolean below = !seldom(3);
        addLevel(text, "", 20, below);
        if (!below) {
            return;
        }
        int middle = levels + 1;
        boolean deeper = seldom(2);
        addLevel(text, "" + top, 22, deeper);
        addNames(text);
        if (deeper) {
            addLevel(text, "" + middle, 23, false);
            addNames(text);
        }
        for (int c = random.nextInt(3); c > 0; c--) {
            addClaim(text);
        }
    }

    private void addLevel(StringBuilder text, String parent, int kind, boolean more) {
        levels++;
        segments++;
        int id = wrong() ? levels + random.nextInt(3) - 1 : levels;
        String told = seldom(9) ? "0" + id : "" + id;
        text.append("LVL*").append(wrong() ? "" : told).append('*').append(wrong() ? one("", "0", "1", "2", "3", "x") : parent).append('*');
        text.append(wrong() ? one("20", "21", "22", "23", "") : "" + kind).append('*').append(wrong() ? one("0", "1", "2", "") : more ? "1" : "0");
        text.append(wrong() ? "*" : "").append('~');
    }

    private void addNames(StringBuilder text) {
        for (int i = random.nextInt(3); i > 0; i--) {
            segments++;
            text.append(wrong() ? one("ZZZ", "NAM", "LIN", "", "\nNAM", "CLM") : "NAM").append("*A:B*").append(wrong() ? "" : "C").append('~');
        }
    }

    private String amount(int hundredths) {
        String sign = hundredths < 0 ? "-" : "";
        int size = Math.abs(hundredths);
        String rest = size % 100 == 0 && seldom(2) ? "" : String.format(".%02d", size % 100);
        return sign + size / 100 + rest;
    }

    private void addClaim(StringBuilder text) {
        int lines = random.nextInt(4);
        int[] of = new int[lines];
        int sum = 0;
        for (int i = 0; i < lines; i++) {
            of[i] = random.nextInt(seldom(3) ? 900000 : 300) - 100;
            sum += of[i];
        }
        segments++;
        text.append("CLM*").append(wrong() ? "" : "R").append('*').append(wrong() ? one("", "-", "1.5", "x") : amount(wrong() ? sum + 1 : sum)).append('~');
        for (int i = 0; i < lines; i++) {
            segments++;
            if (wrong()) {
                segments++;
                text.append(one("NAM*A*B", "ZZZ", "", "LVL*1**20*0", "LIN")).append('~');
            }
            text.append("LIN*").append(wrong() ? random.nextInt(5) : i + 1).append('*');
            text.append(wrong() ? one("", "ABCDEF", ":", ":A", "A:B:C", "P:P") : one("A", "AB:1", "ABCDE:XY", "A:", "P")).append('*');
            text.append(wrong() ? one("", "-", "1.5", "x", "100000", ".50") : amount(of[i])).append('~');
        }
    }
}
