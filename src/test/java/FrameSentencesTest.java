/** Part 2 of the document's terms, sentence by sentence: GROUPS and SETS, and whether SEGMENTS stand where they may. */
public final class FrameSentencesTest {
    private static final Check check = new Check();
    private static final int TAIL = 2, FRAME = 4;
    private static final String HEAD = "OPN*000000042*:~";
    private static final String SET = "SET*837*1~END*2*1~";
    private static final String[] NAMES = {"GRP", "GEN", "CLS", "SET", "END", "LVL", "NAM", "CLM", "LIN", "OPN", "ZZZ", "",
        "grp", "gen", "cls", "set", "end", "GR", "CLSS", " CLS", "CLS:", "GRP:", "GEN:", "SET:", "END:"};

    public static void main(String[] args) throws Exception {
        Sentences document = new Sentences(check, "2 FRAMES, by NAMES", "a 25th is FRAME.");

        document.says("2 FRAMES, by NAMES");
        namesByteForByte();

        document.says("(COUNT: 1 to 6 figures;");
        counts();

        document.says("NUMBER: 1 to 9 figures;");
        numbers();

        document.says("they count as numbers):");
        zerosAhead();

        document.says("behind THE OPENING GRP or CLS;");
        behindTheOpening();

        document.says("GRP e CODE (two letters A .. Z) e NUMBER;");
        groupHeads();

        document.says("in it, behind GRP, SETS, then GEN e COUNT of its SETS e NUMBER of its GRP;");
        inGroups();
        groupEnds();

        document.says("behind GEN GRP or CLS;");
        behindGen();

        document.says("CLS e COUNT of GROUPS e THE NUMBER.");
        lastSegment();

        document.says("A SET: SET e TYPE (three figures) e NUMBER;");
        setHeads();

        document.says("other SEGMENTS, which are not GRP, GEN, CLS, SET;");
        inSets();

        document.says("END e COUNT of its SEGMENTS, SET and END too, e NUMBER of its SET.");
        setEnds();

        document.says("COUNTS and NUMBERS of END that are wrong are faults of the SET (3), not FINDINGS;");
        wrongEnds();

        document.says("of GEN, CLS they are FRAME.");
        wrongGroupEnds();

        document.says("24 SETS at most: a 25th is FRAME.");
        mostSets();

        document.nothingIsLeft();
        check.end();
    }

    private static String group(String code, int number, int sets, String segments) {
        return "GRP*" + code + "*" + number + "~" + segments + "GEN*" + sets + "*" + number + "~";
    }

    private static void finds(String text, boolean taken, int place) {
        check.finding(text, taken ? 0 : FRAME, taken ? -1 : place);
    }

    private static void faults(String set, String want) {
        LoopEnvelopes x = Check.taken(Check.envelope(1, set));
        check.due("faults of " + Check.shown(set), Check.faults(x, 0), want);
    }

    private static void namesByteForByte() {
        String text = HEAD + "GRP*HC*7~SET*837*1~END*2*1~GEN*1*7~CLS*1*42~";
        for (String name : new String[] {"GRP", "SET", "GEN", "CLS"}) {
            int at = text.indexOf(name);
            for (int i = 0; i < 3; i++) {
                for (char b = 0; b < 256; b++) {
                    // A byte that is passed over, or that ends the NAME, makes another SEGMENT of it.
                    boolean plain = b != '*' && b != '~' && b != 10 && b != 13;
                    if (plain && b != name.charAt(i)) {
                        check.finding(text.substring(0, at + i) + b + text.substring(at + i + 1), FRAME, at);
                    }
                }
            }
        }
        // Without END the SET goes on: GEN cannot stand in it.
        check.finding(text.replace("END", "ENE"), FRAME, text.indexOf("GEN"));
        check.finding(text.replace("END", "end"), FRAME, text.indexOf("GEN"));
    }

    private static void counts() {
        for (int n = 0; n <= 12; n++) {
            boolean fits = n >= 1 && n <= 6;
            String none = "0".repeat(n);
            finds(HEAD + "GRP*HC*7~GEN*" + none + "*7~CLS*1*42~", fits, 25);
            finds(HEAD + "CLS*" + none + "*42~", fits, 16);
            if (n > 0) {
                String one = "0".repeat(n - 1) + "1";
                finds(HEAD + "GRP*HC*7~" + SET + "GEN*" + one + "*7~CLS*1*42~", fits, 43);
                finds(HEAD + "GRP*HC*7~GEN*0*7~CLS*" + one + "*42~", fits, 33);
                faults("SET*837*1~END*" + "0".repeat(n - 1) + "2*1~", fits ? "" : "2:3");
            }
        }
        for (char b = 0; b < 256; b++) {
            if (b != '*' && b != '~') {
                finds(HEAD + "GRP*HC*7~GEN*" + b + "*7~CLS*1*42~", b == '0', 25);
                finds(HEAD + "GRP*HC*7~GEN*0" + b + "*7~CLS*1*42~", b == '0', 25);
                finds(HEAD + "CLS*" + b + "*42~", b == '0', 16);
                faults("SET*837*1~END*" + b + "*1~", b == '2' ? "" : "2:3");
                faults("SET*837*1~END*0" + b + "*1~", b == '2' ? "" : "2:3");
            }
        }
        check.finding(HEAD + "CLS*999999*42~", FRAME, 16);
    }

    private static void numbers() {
        for (int n = 0; n <= 12; n++) {
            boolean fits = n >= 1 && n <= 9;
            String number = "987654321012".substring(0, n);
            finds(HEAD + "GRP*HC*" + number + "~GEN*0*" + number + "~CLS*1*42~", fits, 16);
            String zeros = "0".repeat(n);
            finds(HEAD + "GRP*HC*0~GEN*0*" + zeros + "~CLS*1*42~", fits, 25);
            finds("OPN*000000000*:~CLS*0*" + zeros + "~", fits, 16);
            faults("SET*837*" + number + "~END*2*" + number + "~", fits ? "" : "1:3 2:3");
            faults("SET*837*0~END*2*" + zeros + "~", fits ? "" : "2:3");
            faults("SET*837*" + zeros + "~END*2*0~", fits ? "" : "1:3");
        }
        for (char b = 0; b < 256; b++) {
            if (b != '*' && b != '~') {
                boolean figure = b >= '0' && b <= '9';
                finds(HEAD + "GRP*HC*1" + b + "~GEN*0*1" + b + "~CLS*1*42~", figure, 16);
                finds(HEAD + "GRP*HC*" + b + "~GEN*0*" + b + "~CLS*1*42~", figure, 16);
                finds(HEAD + "GRP*HC*7~GEN*0*" + b + "~CLS*1*42~", b == '7', 25);
                finds(HEAD + "CLS*0*4" + b + "~", b == '2', 16);
                faults("SET*837*" + b + "~END*2*" + b + "~", figure ? "" : "1:3 2:3");
                faults("SET*837*1~END*2*" + b + "~", b == '1' ? "" : "2:3");
            }
        }
    }

    private static void zerosAhead() {
        finds(HEAD + "GRP*HC*007~GEN*000000*000000007~CLS*000001*42~", true, 0);
        finds("OPN*000000000*:~CLS*0*0~", true, 0);
        finds(HEAD + "CLS*0*000000042~", true, 0);
        faults("SET*837*0001~END*02*000000001~", "");
        LoopEnvelopes x = Check.taken(HEAD + "GRP*HC*000000007~GEN*0*7~CLS*1*42~");
        check.due("group(0, 1)", x.group(0, 1), 7);
    }

    private static void behindTheOpening() {
        for (String name : NAMES) {
            boolean begins = name.equals("GRP");
            String text = HEAD + name + "*HC*7~";
            check.finding(text, begins ? TAIL : FRAME, begins ? text.length() : 16);
            finds(HEAD + name + "*0*42~", name.equals("CLS"), 16);
        }
    }

    private static void groupHeads() {
        for (int at = 0; at < 2; at++) {
            for (char b = 0; b < 256; b++) {
                if (b != '*' && b != '~') {
                    String code = at == 0 ? b + "M" : "M" + b;
                    String text = HEAD + group(code, 7, 0, "") + "CLS*1*42~";
                    boolean letter = b >= 'A' && b <= 'Z';
                    finds(text, letter, 16);
                    if (letter) {
                        check.due("CODE " + code, Check.taken(text).group(0, 0), 256 * code.charAt(0) + code.charAt(1));
                    }
                }
            }
        }
        for (int n = 0; n <= 4; n++) {
            finds(HEAD + group("ABCD".substring(0, n), 7, 0, "") + "CLS*1*42~", n == 2, 16);
        }
        for (String head : new String[] {"GRP", "GRP*HC", "GRP*HC*7*", "GRP*HC*7*7", "GRP**HC*7", "GRP*7*HC"}) {
            check.finding(HEAD + head + "~GEN*0*7~CLS*1*42~", FRAME, 16);
        }
    }

    private static void inGroups() {
        for (String name : NAMES) {
            // A SET may stand there, but CLS not in it.
            int further = name.equals("SET") ? 8 : 0;
            finds(HEAD + "GRP*HC*7~" + name + "*0*7~CLS*1*42~", name.equals("GEN"), 25 + further);
            finds(HEAD + "GRP*HC*7~" + name + "*837*1~END*2*1~GEN*1*7~CLS*1*42~", name.equals("SET"), 25);
            // Behind a SET it is as behind GRP.
            finds(HEAD + "GRP*HC*7~" + SET + name + "*1*7~CLS*1*42~", name.equals("GEN"), 43 + further);
            finds(HEAD + "GRP*HC*7~" + SET + name + "*837*1~END*2*1~GEN*2*7~CLS*1*42~", name.equals("SET"), 43);
        }
    }

    private static void groupEnds() {
        for (int sets = 0; sets <= 3; sets++) {
            for (int told = 0; told <= 4; told++) {
                finds(HEAD + group("HC", 7, told, SET.repeat(sets)) + "CLS*1*42~", told == sets, 25 + 18 * sets);
                // The SETS of the GROUP ahead do not count.
                String ahead = HEAD + group("AA", 1, 2, SET.repeat(2));
                finds(ahead + group("HC", 7, told, SET.repeat(sets)) + "CLS*2*42~", told == sets, ahead.length() + 9 + 18 * sets);
            }
        }
        for (int number = 5; number <= 9; number++) {
            finds(HEAD + "GRP*HC*7~GEN*0*" + number + "~CLS*1*42~", number == 7, 25);
            finds(HEAD + group("AA", 5, 0, "") + "GRP*HC*7~GEN*0*" + number + "~CLS*2*42~", number == 7, 25 + 17);
        }
        for (String end : new String[] {"GEN", "GEN*0", "GEN*0*7*", "GEN*0*7*7", "GEN**0*7", "GEN*7*0"}) {
            check.finding(HEAD + "GRP*HC*7~" + end + "~CLS*1*42~", FRAME, 25);
        }
    }

    private static void behindGen() {
        String one = HEAD + group("HC", 7, 0, "");
        for (String name : NAMES) {
            finds(one + name + "*1*42~", name.equals("CLS"), one.length());
            finds(one + name + "*HC*7~GEN*0*7~CLS*2*42~", name.equals("GRP"), one.length());
        }
    }

    private static void lastSegment() {
        for (int groups = 0; groups <= 3; groups++) {
            String ahead = HEAD + group("HC", 7, 0, "").repeat(groups);
            for (int told = 0; told <= 4; told++) {
                finds(ahead + "CLS*" + told + "*42~", told == groups, ahead.length());
            }
            for (int number = 40; number <= 44; number++) {
                finds(ahead + "CLS*" + groups + "*" + number + "~", number == 42, ahead.length());
            }
        }
        for (String end : new String[] {"CLS", "CLS*0", "CLS*0*42*", "CLS*0*42*42", "CLS**0*42", "CLS*42*0"}) {
            check.finding(HEAD + end + "~", FRAME, 16);
        }
        finds("OPN*999999999*:~CLS*0*999999999~", true, 0);
        finds("OPN*999999999*:~CLS*0*999999998~", false, 16);
    }

    private static void setHeads() {
        for (int n = 0; n <= 5; n++) {
            faults("SET*" + "83700".substring(0, n) + "*1~END*2*1~", n == 3 ? "" : "1:3");
        }
        for (int at = 0; at < 3; at++) {
            for (char b = 0; b < 256; b++) {
                if (b != '*' && b != '~') {
                    String type = "837".substring(0, at) + b + "837".substring(at + 1);
                    faults("SET*" + type + "*1~END*2*1~", b >= '0' && b <= '9' ? "" : "1:3");
                }
            }
        }
        for (String head : new String[] {"SET", "SET*837", "SET*837*1*", "SET*837*1*1", "SET**837*1"}) {
            faults(head + "~END*2*1~", "1:3");
        }
    }

    private static void inSets() {
        for (String name : NAMES) {
            boolean none = name.equals("GRP") || name.equals("GEN") || name.equals("CLS") || name.equals("SET");
            if (!name.equals("END")) {
                finds(Check.envelope(1, "SET*837*1~" + name + "~END*3*1~"), !none, 35);
                finds(Check.envelope(1, "SET*837*1~X~LVL~\n" + name + "*HC*7~END*5*1~"), !none, 42);
            }
        }
        // A second END has no SET.
        check.finding(Check.envelope(1, "SET*837*1~END*2*1~END*2*1~"), FRAME, 43);
    }

    private static void setEnds() {
        for (int segments = 0; segments <= 12; segments++) {
            String inside = "SET*837*5~" + "X~".repeat(segments);
            for (int told = 0; told <= 16; told++) {
                LoopEnvelopes x = Check.taken(Check.envelope(1, inside + "END*" + told + "*5~"));
                int last = x.setOf(0, 5) - 1;
                boolean faulty = last >= 0 && x.fault(0, last, 0) == segments + 2;
                check.due("END with COUNT " + told + " of " + (segments + 2), faulty ? 1 : 0, told == segments + 2 ? 0 : 1);
            }
        }
        for (int number = 0; number <= 9; number++) {
            faults("SET*837*5~END*2*" + number + "~", number == 5 ? "" : "2:3");
        }
        faults("SET*837*999999999~END*2*999999999~", "");
        faults("SET*837*999999999~END*2*999999998~", "2:3");
        // COUNT and NUMBER are those of its own SET, not of the one ahead.
        LoopEnvelopes x = Check.taken(Check.envelope(2, "SET*837*1~X~END*3*1~SET*837*2~END*3*1~"));
        check.due("faults of the second SET", Check.faults(x, 1), "2:3");
    }

    private static void wrongEnds() {
        for (String end : new String[] {"END", "END*2", "END**", "END*1*1", "END*3*1", "END*999999*1", "END*2*2", "END*2*0",
                "END*x*1", "END*2*x", "END*0000002*1", "END*2*0000000001", "END*2*1*", "END*2*1*1"}) {
            check.finding(Check.envelope(1, "SET*837*1~" + end + "~"), 0, -1);
            faults("SET*837*1~" + end + "~", "2:3");
        }
    }

    private static void wrongGroupEnds() {
        String ahead = HEAD + "GRP*HC*7~" + SET;
        for (String end : new String[] {"GEN*0*7", "GEN*2*7", "GEN*999999*7", "GEN*1*6", "GEN*1*8", "GEN*x*7", "GEN*1*x"}) {
            check.finding(ahead + end + "~CLS*1*42~", FRAME, ahead.length());
        }
        String all = ahead + "GEN*1*7~";
        for (String end : new String[] {"CLS*0*42", "CLS*2*42", "CLS*999999*42", "CLS*1*41", "CLS*1*43", "CLS*x*42", "CLS*1*x"}) {
            check.finding(all + end + "~", FRAME, all.length());
        }
    }

    private static void mostSets() {
        for (int sets = 22; sets <= 26; sets++) {
            finds(Check.envelope(sets, SET.repeat(sets)), sets <= 24, 25 + 24 * 18);
        }
        LoopEnvelopes x = Check.taken(Check.envelope(24, SET.repeat(24)));
        check.due("count(2) of 24", x.count(2), 24);
        check.due("setOf(23, 1) of 24", x.setOf(23, 1), 1 + 2 * 23);
        check.due("setOf(24, 1) of 24", x.setOf(24, 1), LoopEnvelopes.UNKNOWN);
        // They are counted over all GROUPS.
        String first = HEAD + group("AA", 1, 20, SET.repeat(20));
        finds(first + group("BB", 2, 4, SET.repeat(4)) + group("CC", 3, 0, "") + "CLS*3*42~", true, 0);
        finds(first + group("BB", 2, 5, SET.repeat(5)) + "CLS*2*42~", false, first.length() + 9 + 4 * 18);
        finds(first + group("BB", 2, 4, SET.repeat(4)) + group("CC", 3, 1, SET) + "CLS*3*42~", false, first.length() + 17 + 4 * 18 + 9);
    }
}
