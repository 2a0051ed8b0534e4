/** Part 3 of the document's terms, sentence by sentence: what stands in a SET, and its FAULTS. */
public final class SetSentencesTest {
    private static final Check check = new Check();
    /** LVLS under which a CLM may stand; what is behind them begins at place 4. */
    private static final String LEVELS = "LVL*1**20*1~LVL*2*1*22*0~";
    private static final String CLAIM = LEVELS + "CLM*R*0~";

    public static void main(String[] args) throws Exception {
        Sentences document = new Sentences(check, "3 IN A SET stand", "A SET is RIGHT, if it has none.");

        document.says("3 IN A SET stand, one by one: LVL e ID e PARENT e KIND e MORE; NAM e WORD e WORD, behind a LVL or another NAM;"
                + " CLM e REF e AMOUNT; LIN e N e CODE e AMOUNT, behind a CLM or another LIN.");
        allThatMayStand();
        document.says("(WORD, REF: 1 to 12 bytes;");
        words();
        document.says("CODE: one or two PARTS, the first of 1 to 5 bytes;");
        codes();
        document.says("ID: 1 to 4 figures;");
        ids();
        document.says("PARENT: ID, or nothing;");
        parents();
        document.says("KIND: 20, 22 or 23;");
        kinds();
        document.says("MORE: 0 or 1;");
        mores();
        document.says("N: 1 to 3 figures;");
        lineNumbers();
        document.says("AMOUNT: 1 to 5 figures, or these, a point and two figures; perhaps - ahead: in hundredths.)");
        amountForms();
        amountBytes();
        amounts();

        document.says("A SEGMENT is ILL, if it has another number of ELEMENTS, or one that is not as told (of SET and END, too).");
        numbersOfElements();
        illElements();
        document.says("A LVL is LOOSE, if it is ILL or has the FAULT LINK.");
        loose();
        document.says("FAULTS of a SET, in the order of its SEGMENTS, at each the first of these:");
        inTheirOrder();
        document.says("1 NAME: it is none of these.");
        names();
        document.says("2 ORDER: a NAM whose SEGMENT ahead is no LVL, NAM;");
        namesBehind();
        document.says("a LIN whose one ahead is no CLM, LIN (by their NAMES);");
        linesBehind();
        document.says("a CLM without a LVL ahead of it in the SET.");
        claimsWithoutLevel();
        document.says("3 FORM: it is ILL;");
        form();
        document.says("an END whose COUNT is not right, or whose NUMBER is not that of its SET (where that is not ILL).");
        ends();
        document.says("4 LINK: of LVL: its ID is not how many LVLS are ahead of it and 1;");
        wrongIds();
        document.says("KIND 20 with a PARENT;");
        topWithParent();
        document.says("22, 23 whose PARENT is not the ID of an earlier LVL of KIND 20, 22 (in this order) that is not LOOSE;");
        kindsOfParents();
        earlierParents();
        looseParents();
        document.says("of CLM: the last LVL ahead of it is of KIND 20, or of 22 with MORE 1, or is LOOSE;");
        claimsUnderLevels();
        document.says("of LIN: N is not how many LINS are ahead of it behind its CLM and 1.");
        wrongLineNumbers();
        document.says("5 MORE (of LVL): MORE is 1, and no LVL behind it in the SET that is not ILL has its ID as PARENT,"
                + " or 0, and one has.");
        more();
        document.says("6 SUM (of CLM): its AMOUNT is not that of its LINS together"
                + " (those right behind it, one behind the other, that are not ILL).");
        sums();
        document.says("A SEGMENT has one FAULT at most.");
        oneAtMost();
        document.says("A SET is RIGHT, if it has none.");
        rightSets();

        document.nothingIsLeft();
        check.end();
    }

    private static LoopEnvelopes read(String segments) {
        return Check.taken(Check.envelope(1, Check.set(segments)));
    }

    /** The FAULTS of a SET with these SEGMENTS between SET and END, as "place:fault". */
    private static void faults(String segments, String want) {
        LoopEnvelopes x = read(segments);
        check.due("faults of " + Check.shown(segments), Check.faults(x, 0), want);
        check.due("count(3) of " + Check.shown(segments), x.count(3), want.isEmpty() ? 1 : 0);
    }

    /** Whether the last of these SEGMENTS is ILL: it has the FAULT FORM, or else it has none. */
    private static void form(String segments, boolean ill) {
        int place = 1;
        for (char c : segments.toCharArray()) {
            place += c == '~' ? 1 : 0;
        }
        faults(segments, ill ? place + ":3" : "");
    }

    private static boolean isFigure(int b) {
        return b >= '0' && b <= '9';
    }

    private static void allThatMayStand() {
        faults("", "");
        faults("LVL*1**20*1~NAM*A*B~NAM*C*D~LVL*2*1*22*1~NAM*E*F~LVL*3*2*23*0~NAM*G*H~CLM*R*3~LIN*1*A*1~LIN*2*B:C*2~CLM*S*0~"
                + "LVL*4*1*22*0~CLM*T*-0.50~LIN*1*A*-1~LIN*2*A*0.50~LVL*5**20*0~", "");
    }

    private static void words() {
        for (int n = 0; n <= 12; n++) {
            String word = "ABCDEFGHIJKL".substring(0, n);
            form("LVL*1**20*0~NAM*" + word + "*A~", n == 0);
            form("LVL*1**20*0~NAM*A*" + word + "~", n == 0);
            form(LEVELS + "CLM*" + word + "*0~", n == 0);
        }
        for (char b = 0; b < 256; b++) {
            if (b != '*' && b != '~') {
                form("LVL*1**20*0~NAM*" + b + "*" + b + b + "~", false);
                form(LEVELS + "CLM*" + b + "*0~", false);
            }
        }
    }

    private static void codes() {
        for (int n = 0; n <= 12; n++) {
            boolean fits = n >= 1 && n <= 5;
            String first = "A".repeat(n);
            form(CLAIM + "LIN*1*" + first + "*0~", !fits);
            for (int m = 0; n + 1 + m <= 12; m++) {
                form(CLAIM + "LIN*1*" + first + ":" + "B".repeat(m) + "*0~", !fits);
            }
            for (int m = 0; n + 2 + m <= 12; m++) {
                form(CLAIM + "LIN*1*" + first + ":" + "B".repeat(m) + ":*0~", true);
                form(CLAIM + "LIN*1*" + first + "::" + "B".repeat(m) + "*0~", true);
            }
        }
        form(CLAIM + "LIN*1*A:B:C:D*0~", true);
        for (char b = 0; b < 256; b++) {
            if (b != '*' && b != '~') {
                form(CLAIM + "LIN*1*" + b + "*0~", b == ':');
            }
        }
    }

    private static void ids() {
        for (int n = 0; n <= 12; n++) {
            form("LVL*" + (n == 0 ? "" : "0".repeat(n - 1) + "1") + "**20*0~", n < 1 || n > 4);
        }
        for (char b = 0; b < 256; b++) {
            if (b != '*' && b != '~') {
                faults("LVL*" + b + "**20*0~", b == '1' ? "" : isFigure(b) ? "2:4" : "2:3");
                faults("LVL*0" + b + "**20*0~", b == '1' ? "" : isFigure(b) ? "2:4" : "2:3");
            }
        }
        LoopEnvelopes x = read("LVL*9999**20*0~");
        check.due("ID 9999", x.level(0, 0, 1), 9999);
    }

    private static void parents() {
        for (int n = 1; n <= 12; n++) {
            boolean fits = n <= 4;
            faults("LVL*1**20*1~LVL*2*" + "0".repeat(n - 1) + "1*22*0~", fits ? "" : "2:5 3:3");
        }
        for (char b = 0; b < 256; b++) {
            if (b != '*' && b != '~') {
                faults("LVL*1**20*1~LVL*2*" + b + "*22*0~", b == '1' ? "" : isFigure(b) ? "2:5 3:4" : "2:5 3:3");
            }
        }
        LoopEnvelopes x = read("LVL*1*9999*20*0~LVL*2**20*0~LVL*3*0000*22*0~");
        check.due("PARENT 9999", x.level(0, 0, 2), 9999);
        check.due("PARENT that is nothing", x.level(0, 1, 2), 0);
        check.due("PARENT 0000", x.level(0, 2, 2), 0);
        check.due("faults", Check.faults(x, 0), "2:4 4:4");
    }

    private static void kinds() {
        for (int kind = 0; kind <= 99; kind++) {
            String told = kind < 10 ? "0" + kind : "" + kind;
            boolean known = kind == 20 || kind == 22 || kind == 23;
            faults("LVL*1**" + told + "*0~", kind == 20 ? "" : known ? "2:4" : "2:3");
            LoopEnvelopes x = read("LVL*1**" + told + "*0~");
            check.due("KIND " + told, x.level(0, 0, 3), known ? kind : LoopEnvelopes.NONE);
        }
        for (String kind : new String[] {"", "2", "0", "020", "200", "20 ", " 20", "2x", "x0", "-20", "2:0", "20:"}) {
            faults("LVL*1**" + kind + "*0~", "2:3");
        }
    }

    private static void mores() {
        for (char b = 0; b < 256; b++) {
            if (b != '*' && b != '~') {
                faults("LVL*1**20*" + b + "~", b == '0' ? "" : b == '1' ? "2:5" : "2:3");
                check.due("MORE " + (int) b, read("LVL*1**20*" + b + "~").level(0, 0, 4),
                        b == '0' ? 0 : b == '1' ? 1 : LoopEnvelopes.NONE);
            }
        }
        for (String more : new String[] {"", "00", "01", "10", "11", "0 ", "0:"}) {
            faults("LVL*1**20*" + more + "~", "2:3");
        }
    }

    private static void lineNumbers() {
        for (int n = 0; n <= 12; n++) {
            form(CLAIM + "LIN*" + (n == 0 ? "" : "0".repeat(n - 1) + "1") + "*A*0~", n < 1 || n > 3);
        }
        for (char b = 0; b < 256; b++) {
            if (b != '*' && b != '~') {
                faults(CLAIM + "LIN*" + b + "*A*0~", b == '1' ? "" : isFigure(b) ? "5:4" : "5:3");
            }
        }
        StringBuilder hundred = new StringBuilder(CLAIM);
        for (int n = 1; n <= 100; n++) {
            hundred.append("LIN*").append(n).append("*A*0~");
        }
        faults(hundred.toString(), "");
    }

    /** AMOUNTS of so many figures, with or without a point and so many behind it, by each sign ahead. */
    private static void amountForms() {
        for (String sign : new String[] {"", "-", "--", "+", " ", "0-"}) {
            for (int whole = 0; whole <= 7; whole++) {
                for (int behind = -1; behind <= 4; behind++) {
                    String none = sign + "0".repeat(whole) + (behind < 0 ? "" : "." + "0".repeat(behind));
                    boolean signed = sign.isEmpty() || sign.equals("-");
                    boolean fits = signed && whole >= 1 && whole <= 5 && (behind < 0 || behind == 2);
                    if (none.length() <= 12) {
                        form(LEVELS + "CLM*R*" + none + "~", !fits);
                        form(CLAIM + "LIN*1*A*" + none + "~", !fits);
                    }
                }
            }
        }
    }

    private static void amountBytes() {
        String nothing = "-00000.00";
        for (int at = 0; at < nothing.length(); at++) {
            for (char b = 0; b < 256; b++) {
                if (b != '*' && b != '~') {
                    boolean fits = at == 0 ? b == '-' : at == 6 ? b == '.' : isFigure(b);
                    LoopEnvelopes x = read(LEVELS + "CLM*R*" + nothing.substring(0, at) + b + nothing.substring(at + 1) + "~");
                    boolean ill = x.setOf(0, 5) == 1 && x.fault(0, 0, 1) == 3;
                    check.due("AMOUNT with byte " + (int) b + " at " + at, ill ? 1 : 0, fits ? 0 : 1);
                }
            }
        }
    }

    private static void amounts() {
        Object[][] rows = {
            {"0", 0}, {"-0", 0}, {"0.00", 0}, {"-0.00", 0}, {"1", 100}, {"-1", -100}, {"0.01", 1}, {"-0.01", -1}, {"0.10", 10},
            {"0.99", 99}, {"00001", 100}, {"12345", 1234500}, {"12345.67", 1234567}, {"-12345.67", -1234567},
            {"99999", 9999900}, {"99999.99", 9999999}, {"-99999.99", -9999999}, {"00000.05", 5}, {"100000", 0}, {"100000.00", 0},
        };
        for (Object[] row : rows) {
            LoopEnvelopes x = read(LEVELS + "CLM*R*" + row[0] + "~LIN*1*A*" + row[0] + "~");
            check.due("AMOUNT " + row[0] + " of CLM", x.claim(0, 0, 1), (Integer) row[1]);
            check.due("AMOUNT " + row[0] + " of LIN", x.claim(0, 0, 4), (Integer) row[1]);
        }
    }

    private static void numbersOfElements() {
        String[] segments = {"LVL*1**20*0", "NAM*A*B", "CLM*R*0", "LIN*1*A*0"};
        String[] ahead = {"", "LVL*1**20*0~", LEVELS, CLAIM};
        for (int i = 0; i < segments.length; i++) {
            String segment = segments[i];
            form(ahead[i] + segment + "~", false);
            form(ahead[i] + segment + "*~", true);
            form(ahead[i] + segment + "*0~", true);
            form(ahead[i] + segment + "*0*0~", true);
            while (segment.indexOf('*') >= 0) {
                segment = segment.substring(0, segment.lastIndexOf('*'));
                form(ahead[i] + segment + "~", true);
            }
        }
        String[][] sets = {{"SET*837*1*~END*2*1~", "1:3"}, {"SET*837*1*1~END*2*1~", "1:3"}, {"SET*837~END*2*1~", "1:3"},
            {"SET~END*2*1~", "1:3"}, {"SET*837*1~END*2*1*~", "2:3"}, {"SET*837*1~END*2*1*1~", "2:3"}, {"SET*837*1~END*2~", "2:3"},
            {"SET*837*1~END~", "2:3"}, {"SET~END~", "1:3 2:3"}};
        for (String[] set : sets) {
            check.due("faults of " + set[0], Check.faults(Check.taken(Check.envelope(1, set[0])), 0), set[1]);
        }
    }

    private static void illElements() {
        for (String level : new String[] {"LVL*x**20*0", "LVL*1*x*20*0", "LVL*1**21*0", "LVL*1**20*2"}) {
            faults(level + "~", "2:3");
        }
        faults("LVL*1**20*0~NAM**B~NAM*A*~", "3:3 4:3");
        faults(LEVELS + "CLM**0~CLM*R*x~LIN*x*A*0~LIN*2**0~LIN*3*A*x~", "4:3 5:3 6:3 7:3 8:3");
        String[][] sets = {{"SET*83*1~END*2*1~", "1:3"}, {"SET*837*x~END*2*1~", "1:3"}, {"SET*837*1~END*x*1~", "2:3"},
            {"SET*837*1~END*2*x~", "2:3"}};
        for (String[] set : sets) {
            check.due("faults of " + set[0], Check.faults(Check.taken(Check.envelope(1, set[0])), 0), set[1]);
        }
    }

    private static void depth(String segments, int... want) {
        LoopEnvelopes x = read(segments);
        for (int k = 0; k < want.length; k++) {
            check.due("level(0, " + k + ", 5) of " + segments, x.level(0, k, 5), want[k]);
        }
    }

    private static void loose() {
        depth("LVL*1**20*0~", 0);
        depth("LVL~LVL*2**20*0*~LVL*3**20*0~", -1, -1, 0);
        depth("LVL*2**20*0~LVL*2**20*0~", -1, 0);
        depth("LVL*1*1*20*0~LVL*2*9*22*0~LVL*3**23*0~", -1, -1, -1);
        // The FAULT MORE alone makes none LOOSE.
        depth("LVL*1**20*0~LVL*2*1*22*0~LVL*3*2*23*1~", 0, 1, 2);
        // One that is LOOSE makes LOOSE what hangs on it.
        depth("LVL*9**20*1~LVL*2*1*22*1~LVL*3*2*23*0~", -1, -1, -1);
        depth("LVL*1**20*1~LVL*2*1*22*x~LVL*3*2*23*0~", 0, -1, -1);
    }

    private static void inTheirOrder() {
        String all = "ZZZ~NAM*A*B~LVL*1**20*1~LVL*9**20*0~NAM~CLM*R*5~LIN*2*A*0~LVL*3*1*22*0~CLM*R*5~LIN*1*A*x~";
        LoopEnvelopes x = Check.taken(Check.envelope(1, "SET~" + all + "END*9*1~"));
        check.due("faults", Check.faults(x, 0), "1:3 2:1 3:2 5:4 6:3 7:4 8:4 10:6 11:3 12:3");
        faults("LVL*2**20*1~", "2:4");
        faults("LVL*2**20*2~", "2:3");
        faults("NAM*A~", "2:2");
        faults("LIN*9~", "2:2");
        faults("CLM*R~", "2:2");
        faults("LVL*1**20*0~CLM*R~", "3:3");
        faults("LVL*1**20*0~CLM*R*5~", "3:4");
        faults(LEVELS + "CLM*R*5~", "4:6");
    }

    private static void names() {
        for (String name : new String[] {"", "L", "LV", "LVLL", "lvl", "Lvl", "LVL ", " LVL", "LVL:", "OPN", "AGR", "AST", "NAME", "ENDE",
                "CLMS", "LINS", "SETS", "" + (char) 0 + (char) 0 + (char) 0, "ABCDEFGHIJKL"}) {
            faults(name + "*1**20*0~", "2:1");
        }
        String[] known = {"LVL", "NAM", "CLM", "LIN"};
        for (String name : known) {
            for (int i = 0; i < 3; i++) {
                for (char b = 0; b < 256; b++) {
                    boolean plain = b != '*' && b != '~' && b != 10 && b != 13;
                    String other = name.substring(0, i) + b + name.substring(i + 1);
                    if (plain && !other.equals(name) && !other.equals("CLS")) {
                        faults(other + "~", "2:1");
                    }
                }
            }
        }
    }

    /** Behind each NAME in turn, well-formed or not, a SEGMENT that asks what stands ahead of it. */
    private static void behind(String asking, boolean[] fits, String... ahead) {
        for (int i = 0; i < ahead.length; i++) {
            LoopEnvelopes x = read(LEVELS + "CLM*R*0~LIN*1*A*0~" + ahead[i] + asking + "~");
            int last = x.setOf(0, 5) - 1;
            boolean order = last >= 0 && x.fault(0, last, 1) == 2 && x.fault(0, last, 0) == x.setOf(0, 2) - 1;
            check.due(asking + " behind " + ahead[i], order ? 0 : 1, fits[i] ? 1 : 0);
        }
    }

    private static void namesBehind() {
        boolean[] fits = {true, true, true, true, false, false, false, false, false, false, false};
        behind("NAM*A*B", fits, "LVL*3**20*0~", "LVL~", "LVL*3**20*0~NAM*A*B~", "NAM~", "CLM*R*0~", "CLM~", "LIN*2*A*0~", "LIN~", "ZZZ~", "~", "");
        faults("NAM*A*B~", "2:2");
    }

    private static void linesBehind() {
        boolean[] fits = {true, true, true, true, true, false, false, false, false, false, false};
        behind("LIN*2*A*0", fits, "", "LIN*2*A*0~", "LIN~", "CLM*R*0~", "CLM~", "LVL*3**20*0~", "LVL~", "NAM*A*B~", "NAM~", "ZZZ~", "~");
        faults("LIN*1*A*0~", "2:2");
    }

    private static void claimsWithoutLevel() {
        faults("CLM*R*0~", "2:2");
        faults("ZZZ~NAM*A*B~CLM*R*0~LIN*1*A*0~CLM*R*0~", "2:1 3:2 4:2 6:2");
        // By its NAME: an ILL one is a LVL ahead.
        faults("LVL~CLM*R*0~", "2:3 3:4");
        // One behind it is not ahead, nor is one in the SET ahead.
        faults("CLM*R*0~LVL*1**20*0~", "2:2");
        LoopEnvelopes x = Check.taken(Check.envelope(2, Check.set(LEVELS) + Check.set("CLM*R*0~")));
        check.due("faults of the second SET", Check.faults(x, 1), "2:2");
        // Far ahead it is ahead, too.
        faults(LEVELS + "NAM*A*B~".repeat(50) + "CLM*R*0~", "");
    }

    private static void form() {
        faults("LVL~", "2:3");
        faults("LVL*1**20*0~NAM~", "3:3");
        faults(LEVELS + "CLM~", "4:3");
        faults(CLAIM + "LIN~", "5:3");
    }

    private static void ends() {
        String[][] sets = {
            {"SET*837*5~END*2*5~", ""}, {"SET*837*5~END*1*5~", "2:3"}, {"SET*837*5~END*3*5~", "2:3"}, {"SET*837*5~END*0*5~", "2:3"},
            {"SET*837*5~END*2*4~", "2:3"}, {"SET*837*5~END*2*6~", "2:3"}, {"SET*837*0~END*2*0~", ""},
            {"SET*83*5~END*2*6~", "1:3"}, {"SET*837*x~END*2*6~", "1:3"}, {"SET*837*5*~END*2*6~", "1:3"}, {"SET~END*2*6~", "1:3"},
            {"SET*83*5~END*3*5~", "1:3 2:3"}, {"SET*83*5~END*1*5~", "1:3 2:3"}, {"SET*83*5~END*2*x~", "1:3 2:3"},
        };
        for (String[] set : sets) {
            check.due("faults of " + set[0], Check.faults(Check.taken(Check.envelope(1, set[0])), 0), set[1]);
        }
    }

    private static void wrongIds() {
        for (int ahead = 0; ahead <= 5; ahead++) {
            StringBuilder levels = new StringBuilder();
            for (int k = 1; k <= ahead; k++) {
                levels.append("LVL*").append(k).append("**20*0~NAM*A*B~");
            }
            for (int id = 0; id <= 8; id++) {
                faults(levels + "LVL*" + id + "**20*0~", id == ahead + 1 ? "" : 2 * ahead + 2 + ":4");
            }
        }
        StringBuilder many = new StringBuilder();
        for (int k = 1; k <= 80; k++) {
            many.append("LVL*").append(k).append("**20*0~");
        }
        faults(many.toString(), "");
        // ILL ones and LOOSE ones ahead count; those of the SET ahead do not.
        faults("LVL~LVL*9**20*0~LVL*3**20*0~", "2:3 3:4");
        LoopEnvelopes x = Check.taken(Check.envelope(2, Check.set(LEVELS) + Check.set("LVL*1**20*0~LVL*4**20*0~")));
        check.due("faults of the second SET", Check.faults(x, 1), "3:4");
    }

    private static void topWithParent() {
        faults("LVL*1**20*0~LVL*2**20*0~", "");
        faults("LVL*1*1*20*0~", "2:4");
        faults("LVL*1*0*20*0~", "2:4");
        faults("LVL*1*0000*20*0~", "2:4");
        faults("LVL*1**20*1~LVL*2*1*20*0~", "3:4");
    }

    private static void kindsOfParents() {
        // Places 1, 2, 3 in the SET hold KINDS 20, 22, 23; the fourth hangs on each in turn.
        String three = "LVL*1**20*1~LVL*2*1*22*1~LVL*3*2*23*0~";
        for (int parent = 0; parent <= 5; parent++) {
            String last = parent == 3 ? "4:5 " : "";
            faults(three + "LVL*4*" + parent + "*22*0~", parent == 1 ? "" : last + "5:4");
            faults(three + "LVL*4*" + parent + "*23*0~", parent == 2 ? "" : last + "5:4");
        }
        faults(three + "LVL*4**22*0~", "5:4");
        faults(three + "LVL*4**23*0~", "5:4");
        faults("LVL*1**22*0~", "2:4");
        faults("LVL*1**23*0~", "2:4");
    }

    private static void earlierParents() {
        // Itself, a later one, one of the SET ahead.
        faults("LVL*1*1*22*0~", "2:4");
        faults("LVL*1**20*0~LVL*2*2*22*0~", "3:4");
        faults("LVL*1**20*0~LVL*2*3*22*0~LVL*3**20*0~", "3:4");
        LoopEnvelopes x = Check.taken(Check.envelope(2, Check.set(LEVELS) + Check.set("LVL*1*1*22*0~LVL*2*2*23*0~")));
        check.due("faults of the second SET", Check.faults(x, 1), "2:4 3:4");
        // An earlier one need not be right ahead, nor the last.
        faults("LVL*1**20*1~LVL*2**20*0~LVL*3**20*0~LVL*4*1*22*0~", "");
    }

    private static void looseParents() {
        faults("LVL*1**20~LVL*2*1*22*0~", "2:3 3:4");
        faults("LVL*3**20*0~LVL*2*1*22*0~", "2:4 3:4");
        faults("LVL*3**20*0~LVL*2*3*22*0~", "2:4 3:4");
        faults("LVL*1*1*20*1~LVL*2*1*22*0~", "2:4 3:4");
        faults("LVL*1**20*0~LVL*2**22*1~LVL*3*2*23*0~", "3:4 4:4");
        // A LVL with the FAULT MORE is not LOOSE.
        faults("LVL*1**20*0~LVL*2*1*22*0~LVL*3*2*23*0~", "2:5 3:5");
    }

    private static void claimsUnderLevels() {
        faults("LVL*1**20*0~CLM*R*0~", "3:4");
        faults("LVL*1**20*1~CLM*R*0~LVL*2*1*22*0~", "3:4");
        faults("LVL*1**20*1~LVL*2*1*22*0~CLM*R*0~", "");
        faults("LVL*1**20*1~LVL*2*1*22*1~CLM*R*0~LVL*3*2*23*0~", "4:4");
        faults("LVL*1**20*1~LVL*2*1*22*1~CLM*R*0~", "3:5 4:4");
        faults("LVL*1**20*1~LVL*2*1*22*0~CLM*R*0~LVL*3*2*23*0~", "3:5");
        faults("LVL*1**20*1~LVL*2*1*22*1~LVL*3*2*23*0~CLM*R*0~", "");
        faults("LVL*1**20*1~LVL*2*1*22*1~LVL*3*2*23*1~CLM*R*0~", "4:5");
        // LOOSE, by each of its ways.
        faults("LVL*1**20*1~LVL*2*1*22*2~CLM*R*0~", "2:5 3:3 4:4");
        faults("LVL*1**20*1~LVL*3*1*22*0~CLM*R*0~", "3:4 4:4");
        faults("LVL*1**20*1~LVL*2*1*22*1~LVL*3*1*23*0~CLM*R*0~", "3:5 4:4 5:4");
        faults("LVL~CLM*R*0~", "2:3 3:4");
        // The last one ahead counts, not one before it, nor one behind.
        faults(LEVELS + "LVL*3**20*0~CLM*R*0~", "5:4");
        faults("LVL*1**20*1~CLM*R*0~LVL*2*1*22*0~CLM*R*0~", "3:4");
        faults(LEVELS + "CLM*R*0~CLM*R*0~NAM*A*B~CLM*R*0~ZZZ~CLM*R*0~", "6:2 8:1");
    }

    private static void wrongLineNumbers() {
        for (int ahead = 0; ahead <= 5; ahead++) {
            StringBuilder lines = new StringBuilder(CLAIM);
            for (int n = 1; n <= ahead; n++) {
                lines.append("LIN*").append(n).append("*A*0~");
            }
            for (int n = 0; n <= 8; n++) {
                faults(lines + "LIN*" + n + "*A*0~", n == ahead + 1 ? "" : ahead + 5 + ":4");
            }
        }
        // Each CLM begins anew; ILL ones and those with a wrong N count.
        faults(CLAIM + "LIN*1*A*0~LIN*2*A*0~CLM*R*0~LIN*1*A*0~CLM*R*0~LIN*2*A*0~", "10:4");
        faults(CLAIM + "LIN~LIN*9*A*0~LIN*3*A*0~LIN*1*A*0~", "5:3 6:4 8:4");
        faults(LEVELS + "CLM~LIN*1*A*0~LIN*1*A*0~", "4:3 6:4");
        LoopEnvelopes x = Check.taken(Check.envelope(2, Check.set(CLAIM + "LIN*1*A*0~") + Check.set(CLAIM + "LIN*1*A*0~")));
        check.due("faults of the second SET", Check.faults(x, 1), "");
    }

    private static void more() {
        faults("LVL*1**20*1~", "2:5");
        faults("LVL*1**20*0~", "");
        faults("LVL*1**20*1~LVL*2*1*22*0~", "");
        faults("LVL*1**20*0~LVL*2*1*22*0~", "2:5");
        faults("LVL*1**20*1~LVL*2*1*22*1~LVL*3*2*23*0~", "");
        faults("LVL*1**20*1~LVL*2*1*22*0~LVL*3*2*23*0~", "3:5");
        faults("LVL*1**20*1~LVL*2*1*22*1~LVL*3*2*23*1~", "4:5");
        // Behind it: not ahead of it, not itself, not in the next SET; anywhere behind it in its own.
        faults("LVL*1*2*22*0~LVL*2**20*0~", "2:4");
        faults("LVL*1*2*22*0~LVL*2**20*1~", "2:4 3:5");
        LoopEnvelopes x = Check.taken(Check.envelope(2, Check.set("LVL*1**20*1~") + Check.set("LVL*1*1*22*0~")));
        check.due("faults of the first SET", Check.faults(x, 0), "2:5");
        faults("LVL*1**20*1~" + "NAM*A*B~".repeat(80) + "LVL*2*1*22*0~", "");
        faults("LVL*1**20*0~" + "NAM*A*B~".repeat(80) + "LVL*2*1*22*0~", "2:5");
        // An ILL one has none as PARENT; one that is LOOSE by LINK, of any KIND, has.
        faults("LVL*1**20*1~LVL*2*1*22~", "2:5 3:3");
        faults("LVL*1**20*0~LVL*2*1*22~", "3:3");
        faults("LVL*1**20*1~LVL*9*1*22*0~", "3:4");
        faults("LVL*1**20*1~LVL*2*1*23*0~", "3:4");
        faults("LVL*1**20*1~LVL*2*1*20*0~", "3:4");
        faults("LVL*1**20*0~LVL*2*1*20*0~", "2:5 3:4");
        // The numbers count, not their figures; another SEGMENT's is no PARENT.
        faults("LVL*0001**20*1~LVL*2*01*22*0~", "");
        faults("LVL*1**20*0~NAM*2*1~", "");
        faults("LVL*1**20*0~ZZZ*2*1*22*0~", "3:1");
    }

    private static void sums() {
        faults(LEVELS + "CLM*R*0~", "");
        faults(LEVELS + "CLM*R*0.01~", "4:6");
        faults(LEVELS + "CLM*R*-0.01~", "4:6");
        for (int hundredths = 7; hundredths <= 11; hundredths++) {
            String amount = hundredths < 10 ? "0.0" + hundredths : "0." + hundredths;
            faults(LEVELS + "CLM*R*" + amount + "~LIN*1*A*0.04~LIN*2*A*0.05~", hundredths == 9 ? "" : "4:6");
        }
        faults(LEVELS + "CLM*R*-5~LIN*1*A*5~", "4:6");
        faults(LEVELS + "CLM*R*-5~LIN*1*A*-7.50~LIN*2*A*2.50~", "");
        // ILL ones do not count, but what stands behind them does; one with a wrong N counts.
        faults(LEVELS + "CLM*R*3~LIN*1*A*1~LIN*2*ABCDEF*9~LIN*3*A*2~", "6:3");
        faults(LEVELS + "CLM*R*12~LIN*1*A*1~LIN*2*ABCDEF*9~LIN*3*A*2~", "4:6 6:3");
        faults(LEVELS + "CLM*R*3~LIN*1*A*1~LIN*9*A*2~", "6:4");
        // Right behind it, one behind the other: nothing else may stand between.
        faults(LEVELS + "CLM*R*1~LIN*1*A*1~NAM*A*B~LIN*2*A*2~", "6:2 7:2");
        faults(LEVELS + "CLM*R*3~LIN*1*A*1~NAM*A*B~LIN*2*A*2~", "4:6 6:2 7:2");
        faults(LEVELS + "CLM*R*1~~LIN*1*A*1~", "4:6 5:1 6:2");
        faults(LEVELS + "CLM*R*1~CLM*R*2~LIN*1*A*2~LIN*2*A*1~", "4:6 5:6");
        // Far beyond what an AMOUNT can tell.
        StringBuilder lines = new StringBuilder();
        for (int n = 1; n <= 50; n++) {
            lines.append("LIN*").append(n).append("*A*99999.99~");
        }
        faults(LEVELS + "CLM*R*99999.99~" + lines, "4:6");
        check.due("the LINS together", read(LEVELS + "CLM*R*99999.99~" + lines).claim(0, 0, 4), 499999950);
        check.due("the LINS together, below 0", read(LEVELS + "CLM*R*0~" + lines.toString().replace("A*", "A*-")).claim(0, 0, 4), -499999950);
    }

    private static void oneAtMost() {
        // Each is wrong in all that it can be.
        faults("NAM~LIN~CLM~LVL*7*7*20~CLM*R*x~", "2:2 3:2 4:2 5:3 6:3");
        faults("LVL*1**20*0~CLM*R*9~LIN*9*A*x~", "3:4 4:3");
        LoopEnvelopes x = Check.taken(Check.envelope(1, "SET*83*x*1~END*9*9*9~"));
        check.due("faults", Check.faults(x, 0), "1:3 2:3");
        LoopEnvelopes y = Check.taken(Check.envelope(1, "SET~" + "LVL~".repeat(100) + "END~"));
        check.due("one for each SEGMENT", y.setOf(0, 5), 102);
        check.due("fault(0, 101, 0)", y.fault(0, 101, 0), 102);
        check.due("fault(0, 102, 0)", y.fault(0, 102, 0), LoopEnvelopes.UNKNOWN);
    }

    private static void rightSets() {
        String right = Check.set("LVL*1**20*0~");
        String wrong = Check.set("LVL*1**20*1~");
        for (int wrongs = 0; wrongs <= 4; wrongs++) {
            LoopEnvelopes x = Check.taken(Check.envelope(4, wrong.repeat(wrongs) + right.repeat(4 - wrongs)));
            check.due("count(3)", x.count(3), 4 - wrongs);
            for (int s = 0; s < 4; s++) {
                check.due("setOf(" + s + ", 5)", x.setOf(s, 5), s < wrongs ? 1 : 0);
            }
        }
        check.due("count(3) without SETS", Check.taken("OPN*000000042*:~CLS*0*42~").count(3), 0);
        // One FAULT is enough, of each kind.
        for (String one : new String[] {"ZZZ~", "NAM*A*B~", "LVL~", "LVL*2**20*0~", "LVL*1**20*1~", LEVELS + "CLM*R*1~"}) {
            LoopEnvelopes x = read(one);
            check.due("setOf(0, 5) of " + one, x.setOf(0, 5), 1);
            check.due("count(3) of " + one, x.count(3), 0);
        }
    }
}
