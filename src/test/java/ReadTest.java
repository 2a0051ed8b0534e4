/** Promises 5 and 6: read and where, with the parts 1 and 2 of the document's terms. */
public final class ReadTest {
    private static final Check check = new Check();
    private static final String OPENING = "OPN*000000042*:~";

    public static void main(String[] args) {
        opening();
        separators();
        tail();
        many();
        frameOutsideSets();
        frameWithSets();
        breaks();
        mostSegments();
        mostSets();
        wherePassesWithTheNextRead();
        check.end();
    }

    private static void opening() {
        check.finding("", 1, 0);
        check.finding("OPN*000000042*:", 1, 0);
        check.finding(OPENING, 2, 16);
        check.finding("QPN*000000042*:~CLS*0*42~", 1, 0);
        check.finding("OQN*000000042*:~CLS*0*42~", 1, 0);
        check.finding("OPM*000000042*:~CLS*0*42~", 1, 0);
        check.finding("OPN*00000004x*:~CLS*0*42~", 1, 0);
        check.finding("OPN*x00000042*:~CLS*0*42~", 1, 0);
        check.finding("OPN*0000 0042*:~CLS*0*42~", 1, 0);
        check.finding("OPN*000000042+:~CLS*0*42~", 1, 0);
        check.finding("\nOPN*000000042*:~CLS*0*42~", 1, 0);
        check.finding("OPN*000000042*:~CLS*0*42~", 0, -1);
        check.finding("OPN*999999999*:~CLS*0*999999999~", 0, -1);
        check.finding("OPN*000000000*:~CLS*0*0~", 0, -1);
    }

    private static void separators() {
        check.finding("OPN*000000042**~CLS*0*42~", 1, 0);
        check.finding("OPN*000000042*:*CLS*0*42*", 1, 0);
        check.finding("OPN*000000042*~~CLS*0*42~", 1, 0);
        for (int b = 0; b < 256; b++) {
            char c = (char) b;
            boolean letter = c >= 'A' && c <= 'Z';
            boolean figure = c >= '0' && c <= '9';
            boolean none = letter || figure || b == 10 || b == 13 || b == 32 || c == '-' || c == '.' || b > 127;
            boolean fits = !none;
            finds("OPN" + c + "000000042" + c + ":~CLS" + c + "0" + c + "42~", fits && c != ':' && c != '~', b);
            finds("OPN*000000042*" + c + "~CLS*0*42~", fits && c != '*' && c != '~', b);
            finds("OPN*000000042*:" + c + "CLS*0*42" + c, fits && c != '*' && c != ':', b);
        }
    }

    private static void finds(String text, boolean taken, int b) {
        LoopEnvelopes x = Check.with(text);
        check.due("read() with a separator " + b, x.read(), taken ? 0 : 1);
        check.due("where() with a separator " + b, x.where(), taken ? -1 : 0);
    }

    private static void tail() {
        check.finding(OPENING + "CLS*0*42", 2, 24);
        check.finding(OPENING + "\r\n", 2, 18);
        check.finding(OPENING + "GRP*HC*1~", 2, 25);
        check.finding(OPENING + "GRP*HC*1~\n", 2, 26);
        check.finding(OPENING + "GRP*HC*1~SET*837*1~", 2, 35);
        check.finding(OPENING + "GRP*HC*1~GEN*0*1~", 2, 33);
        // TAIL ahead of MANY and FRAME at the same SEGMENT, but not ahead of an earlier SEGMENT's.
        check.finding(OPENING + "A*1*2*3*4*5*6*7*8*9", 2, 35);
        check.finding(OPENING + "NOT", 2, 19);
        check.finding(OPENING + "NOT~NO", 4, 16);
        check.finding(OPENING + "CLS*0*42~ ", 2, 25);
        check.finding(OPENING + "CLS*0*42~\r\n\n\r", 0, -1);
        check.finding(OPENING + "CLS*0*42~\r\nCLS*0*42~", 2, 27);
        check.finding(OPENING + "CLS*0*42~~", 2, 25);
        check.finding(OPENING + "CLS*0*42~" + (char) 0, 2, 25);
        check.finding(OPENING + "CLS*1*42~ ", 4, 16);
    }

    private static void many() {
        String head = OPENING + "GRP*HC*1~SET*837*1~";
        String tail = "END*3*1~GEN*1*1~CLS*1*42~";
        check.finding(head + "A*1*2*3*4*5*6*7*8~" + tail, 0, -1);
        check.finding(head + "A*1*2*3*4*5*6*7*8*9~" + tail, 3, 35);
        check.finding(head + "A*********~" + tail, 3, 35);
        check.finding(head + "A********~" + tail, 0, -1);
        check.finding(head + "ABCDEFGHIJKL~" + tail, 0, -1);
        check.finding(head + "ABCDEFGHIJKLM~" + tail, 3, 35);
        check.finding(head + "\r\nABCDEFGHIJKLM~" + tail, 3, 37);
        check.finding(head + "A*123456:89012~" + tail, 0, -1);
        check.finding(head + "A*123456:890123~" + tail, 3, 35);
        check.finding(head + "A*1*2*3*4*5*6*7*123456789012~" + tail, 0, -1);
        check.finding(head + "A*1*2*3*4*5*6*7*1234567890123~" + tail, 3, 35);
        // MANY ahead of FRAME.
        check.finding(OPENING + "NOT*1234567890123~", 3, 16);
        check.finding(OPENING + "NOT*123456789012~", 4, 16);
    }

    private static void frameOutsideSets() {
        for (String name : new String[] {"SET*837*1", "END*2*1", "GEN*0*1", "OPN", "LVL*1**20*0", "", "grp*HC*1", "GRPX*HC*1"}) {
            check.finding(OPENING + name + "~", 4, 16);
        }
        for (String name : new String[] {"GRP*HC*1", "END*2*1", "CLS*1*42", "LVL*1**20*0", "", "GEN:*0*1"}) {
            check.finding(OPENING + "GRP*HC*1~" + name + "~", 4, 25);
        }
        for (String group : new String[] {"GRP", "GRP*HC", "GRP*HC*1*", "GRP*H*1", "GRP*HCX*1", "GRP*Hc*1", "GRP*hC*1",
                "GRP*H1*1", "GRP*@A*1", "GRP*A[*1", "GRP**1", "GRP*HC*", "GRP*HC*x", "GRP*HC*-1", "GRP*HC*1234567890"}) {
            check.finding(OPENING + group + "~", 4, 16);
        }
        check.finding(OPENING + "GRP*AZ*123456789~GEN*0*123456789~CLS*1*42~", 0, -1);
        check.finding(OPENING + "GRP*ZA*0~GEN*000000*000000000~CLS*000001*000000042~", 0, -1);
        for (String end : new String[] {"GEN", "GEN*0", "GEN*0*7*", "GEN**7", "GEN*1*7", "GEN*0*8", "GEN*0*", "GEN*0000000*7",
                "GEN*0*0000000007", "GEN*x*7"}) {
            check.finding(OPENING + "GRP*HC*7~" + end + "~", 4, 25);
        }
        for (String end : new String[] {"CLS", "CLS*0", "CLS*0*42*", "CLS**42", "CLS*1*42", "CLS*0*43", "CLS*0*", "CLS*0000000*42",
                "CLS*0*0000000042", "CLS*0*x"}) {
            check.finding(OPENING + end + "~", 4, 16);
        }
        check.finding(OPENING + "GRP*AA*1~GEN*0*1~GRP*AA*1~GEN*0*1~CLS*2*42~", 0, -1);
        check.finding(OPENING + "GRP*AA*1~GEN*0*1~GRP*AA*1~GEN*0*1~CLS*1*42~", 4, 16 + 34);
        check.finding(OPENING + "GRP*AA*1~GEN*0*1~GEN*0*1~CLS*1*42~", 4, 16 + 17);
    }

    private static void frameWithSets() {
        String head = OPENING + "GRP*HC*7~SET*837*1~";
        for (String name : new String[] {"GRP*HC*1", "GEN*1*7", "CLS*1*42", "SET*837*2", "GRP", "GEN", "CLS", "SET"}) {
            check.finding(head + name + "~END*2*1~GEN*1*7~CLS*1*42~", 4, 35);
        }
        for (String name : new String[] {"OPN", "", "grp", "END:", "X*1", "GRP:*HC*1"}) {
            check.finding(head + name + "~END*3*1~GEN*1*7~CLS*1*42~", 0, -1);
        }
        // What is wrong in SET and END themselves is a fault, no FINDING.
        for (String set : new String[] {"SET", "SET*837", "SET*83*1", "SET*8370*1", "SET*837*x", "SET*837*1*2"}) {
            check.finding(OPENING + "GRP*HC*7~" + set + "~END*2*1~GEN*1*7~CLS*1*42~", 0, -1);
        }
        for (String end : new String[] {"END", "END*2", "END*3*1", "END*2*2", "END*x*1", "END*2*1*1"}) {
            check.finding(head + end + "~GEN*1*7~CLS*1*42~", 0, -1);
        }
        check.finding(head + "END*2*1~END*2*1~GEN*1*7~CLS*1*42~", 4, 43);
        check.finding(head + "END*2*1~SET*837*1~END*2*1~GEN*2*7~CLS*1*42~", 0, -1);
        check.finding(head + "END*2*1~SET*837*1~END*2*1~GEN*1*7~CLS*1*42~", 4, 61);
        // The SETS of an earlier GROUP do not count in the next.
        check.finding(head + "END*2*1~GEN*1*7~GRP*HC*8~GEN*0*8~CLS*2*42~", 0, -1);
        check.finding(head + "END*2*1~GEN*1*7~GRP*HC*8~GEN*1*8~CLS*2*42~", 4, 60);
    }

    private static void breaks() {
        check.finding(OPENING + "\r\n\nGRP*HC*1~\nGEN*0*1~\r\rCLS*1*42~\r\n", 0, -1);
        check.finding(OPENING + "\r\nNOT~", 4, 18);
        check.finding(OPENING + "\r\n~", 4, 18);
        check.finding(OPENING + " GRP*HC*1~", 4, 16);
        check.finding(OPENING + "G\nRP*HC*1~", 4, 16);
        check.finding(OPENING + "CLS*0*42\n~", 4, 16);
    }

    private static void mostSegments() {
        String head = OPENING + "GRP*HC*7~SET*837*1~";
        String tail = "GEN*1*7~CLS*1*42~";
        check.finding(head + "~".repeat(115) + "END*118*1~" + tail, 0, -1);
        LoopEnvelopes x = Check.taken(head + "~".repeat(115) + "END*118*1~" + tail + "\n");
        check.due("count(0) of 120 SEGMENTS", x.count(0), 120);
        check.due("setOf(0, 2) of 120 SEGMENTS", x.setOf(0, 2), 117);
        // The 121st is CLS: MANY at its first byte; without s it is TAIL.
        String more = head + "~".repeat(116) + "END*118*1~GEN*1*7~";
        check.finding(more + "\nCLS*1*42~", 3, more.length() + 1);
        check.finding(more + "\nCLS*1*42", 2, more.length() + 9);
        check.finding(more + "\n", 2, more.length() + 1);
        String groups = OPENING + "GRP*HC*7~GEN*0*7~".repeat(59);
        check.finding(groups + "CLS*59*42~", 0, -1);
        check.finding(groups + "GRP*HC*7~GEN*0*7~CLS*60*42~", 3, groups.length() + 17);
    }

    private static void mostSets() {
        String set = "SET*837*1~END*2*1~";
        check.finding(Check.envelope(24, set.repeat(24)), 0, -1);
        check.finding(Check.envelope(25, set.repeat(25)), 4, 25 + 24 * 18);
        String halves = OPENING + "GRP*HC*7~" + set.repeat(12) + "GEN*12*7~";
        check.finding(halves + "GRP*HC*8~" + set.repeat(12) + "GEN*12*8~CLS*2*42~", 0, -1);
        check.finding(halves + "GRP*HC*8~" + set.repeat(13) + "GEN*13*8~CLS*2*42~", 4, 25 + 12 * 18 + 9 + 9 + 12 * 18);
    }

    private static void wherePassesWithTheNextRead() {
        LoopEnvelopes x = Check.with(OPENING + "CLS*0*42~X");
        check.due("where() ahead of read()", x.where(), -1);
        check.due("read()", x.read(), 2);
        check.due("where()", x.where(), 25);
        check.due("cut(25)", x.cut(25), 1);
        check.due("where() stays", x.where(), 25);
        check.due("read() again", x.read(), 0);
        check.due("where() again", x.where(), -1);
    }
}
