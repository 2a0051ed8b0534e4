/** Part 1 of the document's terms, sentence by sentence: THE TEXT, THE OPENING, SEGMENTS, READ and THE FINDING. */
public final class TextSentencesTest {
    private static final Check check = new Check();
    private static final int OPENING = 1, TAIL = 2, MANY = 3, FRAME = 4;
    private static final String HEAD = "OPN*000000042*:~";
    private static final String CLS = "CLS*0*42~";
    private static final String IN_SET = HEAD + "GRP*HC*7~SET*837*1~";
    private static final String REST = "GEN*1*7~CLS*1*42~";

    public static void main(String[] args) throws Exception {
        Sentences document = new Sentences(check, "255), 1200 at most.", "else there are no SETS.");

        document.says("255), 1200 at most.");
        everyByte();
        mostBytes();

        document.says("THE OPENING are its first 16 bytes:");
        openingCutShort();

        document.says("OPN; a byte e; nine figures, THE NUMBER; e again; a byte p; a byte s.");
        openingByteForByte();
        numbers();

        document.says("e, p, s are three unlike bytes,");
        unlikeSeparators();

        document.says("none of them a letter A .. Z, a figure 0 .. 9, 10, 13, a blank or a sign - or ., and below 128.");
        everySeparator();

        document.says("Behind it come SEGMENTS, each to the next s (which is no part of it).");
        segmentsEndAtS();

        document.says("A SEGMENT is split by e: first its NAME, then ELEMENTS;");
        elementsEndAtE();

        document.says("bytes 10 and 13 ahead of a NAME are passed over.");
        breaksAheadOfNames();

        document.says("An ELEMENT is split by p into PARTS.");
        partsEndAtP();

        document.says("SEGMENTS are numbered from 0, behind THE OPENING; 120 at most.");
        segmentNumbers();

        document.says("Behind the SEGMENT CLS nothing may come but bytes 10, 13.");
        behindCls();

        document.says("READ: THE FINDING, with the place of a byte: 1 OPENING: THE TEXT has less than 16 bytes,"
                + " or they are not as told (place 0).");
        openingFirst();

        document.says("Then SEGMENT by SEGMENT the first of these:");
        segmentBySegment();

        document.says("2 TAIL: it has no s, or there is none, without CLS (the length of THE TEXT);"
                + " something stands behind CLS (that byte).");
        tails();

        document.says("3 MANY: a 121st SEGMENT, a SEGMENT with more than 8 ELEMENTS, one ELEMENT or NAME of more than 12 bytes"
                + " (the first byte of that SEGMENT).");
        manySegments();
        manyElements();
        manyBytes();

        document.says("4 FRAME: a SEGMENT that cannot stand there, or is not as 2 wants it (its first byte).");
        frames();

        document.says("Without a FINDING (0) it is TAKEN; else there are no SETS.");
        takenOrNot();

        document.nothingIsLeft();
        check.end();
    }

    private static String inSet(String segments, int count) {
        return IN_SET + segments + "END*" + count + "*1~" + REST;
    }

    private static void everyByte() {
        for (int b = 0; b < 256; b++) {
            LoopEnvelopes x = new LoopEnvelopes();
            check.due("feed of byte " + b, x.feed(b, 1), 1);
            check.due("byte " + b + " as fed", x.set(0, 255 - b), b);
            check.due("byte " + (255 - b) + " as set", x.set(0, b), 255 - b);
        }
    }

    private static void mostBytes() {
        LoopEnvelopes x = new LoopEnvelopes();
        for (int i = 1; i <= 1200; i++) {
            check.due("byte " + i, x.feed(i, 1), i);
        }
        check.due("a 1201st byte", x.feed(1, 1), LoopEnvelopes.FULL);
        check.due("bytes", x.count(5), 1200);
        String text = HEAD + CLS;
        check.finding(text + "\n".repeat(1200 - text.length()), 0, -1);
        check.finding(text + "\n".repeat(1199 - text.length()) + "x", TAIL, 1199);
    }

    private static void openingCutShort() {
        for (int n = 0; n < 16; n++) {
            check.finding(HEAD.substring(0, n), OPENING, 0);
        }
        check.finding(HEAD, TAIL, 16);
        LoopEnvelopes x = Check.with(HEAD + CLS);
        x.cut(15);
        check.due("read() of what was cut to 15", x.read(), OPENING);
    }

    private static void openingByteForByte() {
        for (int at = 0; at <= 13; at++) {
            boolean inNumber = at >= 4 && at <= 12;
            for (int b = 0; b < 256; b++) {
                if (at != 3) {
                    String head = HEAD.substring(0, at) + (char) b + HEAD.substring(at + 1);
                    boolean fits = inNumber ? b >= '0' && b <= '9' : b == HEAD.charAt(at);
                    String text = head + "CLS*0*" + head.substring(4, 13) + "~";
                    check.finding(text, fits ? 0 : OPENING, fits ? -1 : 0);
                }
            }
        }
        check.finding("OPN*00000042*:~" + CLS, OPENING, 0);
        check.finding("OPN*0000000042*:~" + CLS, OPENING, 0);
    }

    private static void numbers() {
        for (String number : new String[] {"000000000", "000000001", "100000000", "012345678", "999999999"}) {
            LoopEnvelopes x = Check.taken("OPN*" + number + "*:~CLS*0*" + number + "~");
            check.due("THE NUMBER " + number, x.count(4), Long.parseLong(number));
        }
    }

    private static String with(char e, char p, char s) {
        return (HEAD + CLS).replace("*", "e").replace(":", "p").replace("~", "s")
                .replace('e', e).replace('p', p).replace('s', s);
    }

    private static void unlikeSeparators() {
        check.finding(with('*', ':', '~'), 0, -1);
        check.finding(with('*', '*', '~'), OPENING, 0);
        check.finding(with('*', ':', '*'), OPENING, 0);
        check.finding(with('*', '~', '~'), OPENING, 0);
        check.finding(with('*', '*', '*'), OPENING, 0);
    }

    private static void everySeparator() {
        String none = "ABCDEFGHIJKLMNOPQRSTUVWXYZ0123456789\n\r -.";
        for (char b = 0; b < 256; b++) {
            boolean fits = b < 128 && none.indexOf(b) < 0;
            // The other two are signs that no other place of the text has, nor this one.
            char one = b == '#' ? '$' : '#';
            char other = b == '%' ? '&' : '%';
            check.finding("OPN" + b + "000000042" + b + one + other + "CLS" + b + "0" + b + "42" + other, fits ? 0 : OPENING, fits ? -1 : 0);
            check.finding("OPN" + one + "000000042" + one + b + other + "CLS" + one + "0" + one + "42" + other, fits ? 0 : OPENING, fits ? -1 : 0);
            check.finding("OPN" + one + "000000042" + one + other + b + "CLS" + one + "0" + one + "42" + b, fits ? 0 : OPENING, fits ? -1 : 0);
        }
    }

    private static void sizes(LoopEnvelopes x, int k, int... want) {
        for (int e = 0; e < want.length; e++) {
            check.due("size(" + k + ", " + e + ")", x.size(k, e), want[e]);
        }
    }

    private static void segmentsEndAtS() {
        LoopEnvelopes x = Check.taken(inSet("AB*CD~~E~", 5));
        sizes(x, 2, 2, 2, -1);
        check.due("the last byte ahead of s", x.byteOf(2, 1, 1), 'D');
        check.due("s is no part", x.byteOf(2, 1, 2), LoopEnvelopes.UNKNOWN);
        sizes(x, 3, 0, -1);
        sizes(x, 4, 1, -1);
        check.due("count(0)", x.count(0), 8);
    }

    private static void elementsEndAtE() {
        LoopEnvelopes x = Check.taken(inSet("A*~*B~**~C*D:*E~", 6));
        sizes(x, 2, 1, 0, -1);
        sizes(x, 3, 0, 1, -1);
        sizes(x, 4, 0, 0, 0, -1);
        sizes(x, 5, 1, 2, 1, -1);
        check.due("element (5, 1)", Check.element(x, 5, 1), "D:");
    }

    private static void breaksAheadOfNames() {
        for (char b = 0; b < 256; b++) {
            if (b != '*' && b != '~') {
                boolean passed = b == 10 || b == 13;
                LoopEnvelopes x = Check.taken(inSet(b + "LVL*1**20*0~", 3));
                check.due("faults with byte " + (int) b + " ahead of a NAME", Check.faults(x, 0), passed ? "" : "2:1");
                check.due("size(2, 0) with byte " + (int) b, x.size(2, 0), passed ? 3 : 4);
                LoopEnvelopes y = Check.taken(inSet("LVL" + b + "*1**20*0~", 3));
                check.due("faults with byte " + (int) b + " behind a NAME", Check.faults(y, 0), "2:1");
                LoopEnvelopes z = Check.taken(inSet("LVL*" + b + "1**20*0~", 3));
                boolean figure = b >= '0' && b <= '9';
                check.due("faults with byte " + (int) b + " ahead of an ELEMENT", Check.faults(z, 0), b == '0' ? "" : figure ? "2:4" : "2:3");
            }
        }
        String many = "\r\n\n\r\r\n";
        String text = HEAD + many + "GRP*HC*7~" + many + "SET*837*1~" + many + "LVL*1**20*0~" + many + "END*3*1~" + many + "GEN*1*7~"
                + many + "CLS*1*42~" + many;
        LoopEnvelopes x = Check.taken(text);
        check.due("count(0) with many breaks", x.count(0), 6);
        check.due("count(3) with many breaks", x.count(3), 1);
        // Between THE OPENING's bytes none is passed over.
        check.finding("\n" + HEAD + CLS, OPENING, 0);
        check.finding("OPN*\n00000042*:~" + CLS, OPENING, 0);
        // A break alone makes no NAME longer than 12 bytes.
        check.finding(inSet("\n".repeat(50) + "ABCDEFGHIJKL~", 3), 0, -1);
    }

    private static void partsEndAtP() {
        String claim = "LVL*1**20*1~LVL*2*1*22*0~CLM*R*0~";
        String text = inSet(claim + "LIN*1*ABCDE:FG*0~LIN*2*ABCDE;FG*0~LIN*3*A;B;C*0~LIN*4*A:B:C*0~", 9);
        check.due("faults with p :", Check.faults(Check.taken(text), 0), "6:3 8:3");
        check.due("faults with p ;", Check.faults(Check.taken(text.replace("*:~", "*;~")), 0), "5:3 7:3");
    }

    private static void segmentNumbers() {
        LoopEnvelopes x = Check.taken(HEAD + CLS);
        check.due("element (0, 0)", Check.element(x, 0, 0), "CLS");
        check.due("size(1, 0)", x.size(1, 0), LoopEnvelopes.UNKNOWN);
        LoopEnvelopes y = Check.taken(inSet("~".repeat(115), 117));
        check.due("count(0) of 120", y.count(0), 120);
        check.due("element (0, 0) of 120", Check.element(y, 0, 0), "GRP");
        check.due("element (119, 0) of 120", Check.element(y, 119, 0), "CLS");
        check.due("size(120, 0) of 120", y.size(120, 0), LoopEnvelopes.UNKNOWN);
        check.due("size(-1, 0) of 120", y.size(-1, 0), LoopEnvelopes.UNKNOWN);
    }

    private static void behindCls() {
        for (char b = 0; b < 256; b++) {
            boolean passed = b == 10 || b == 13;
            check.finding(HEAD + CLS + b, passed ? 0 : TAIL, passed ? -1 : 25);
            check.finding(HEAD + CLS + "\n\r" + b + "\n", passed ? 0 : TAIL, passed ? -1 : 27);
        }
        check.finding(HEAD + CLS + CLS, TAIL, 25);
        check.finding(HEAD + CLS + "GRP*HC*7~", TAIL, 25);
    }

    private static void openingFirst() {
        // Whatever else is wrong behind them.
        check.finding("QPN*000000042*:~", OPENING, 0);
        check.finding("OPN*000000042*::CLS*0*42", OPENING, 0);
        check.finding("OPN*000000042*:.NOT*1*2*3*4*5*6*7*8*9.", OPENING, 0);
        check.finding("", OPENING, 0);
    }

    private static void segmentBySegment() {
        String nine = "A*1*2*3*4*5*6*7*8*9";
        // At one SEGMENT: TAIL ahead of MANY and FRAME, MANY ahead of FRAME.
        check.finding(HEAD + nine, TAIL, HEAD.length() + nine.length());
        check.finding(HEAD + "NOT", TAIL, 19);
        check.finding(HEAD + nine + "~", MANY, 16);
        check.finding(HEAD + "ABCDEFGHIJKLM~", MANY, 16);
        check.finding(IN_SET + "GRP*1*2*3*4*5*6*7*8*9~", MANY, 35);
        check.finding(IN_SET + "GRP*HC*1~", FRAME, 35);
        String most = IN_SET + "~".repeat(118);
        check.finding(most + "GRP*HC*1~", MANY, most.length());
        check.finding(most + "GRP*HC*1", TAIL, most.length() + 8);
        // An earlier SEGMENT's ahead of a later one's.
        check.finding(HEAD + "NOT~" + nine + "~", FRAME, 16);
        check.finding(HEAD + "NOT~NOT", FRAME, 16);
        check.finding(IN_SET + nine + "~GRP*HC*1~", MANY, 35);
        check.finding(IN_SET + nine + "~X", MANY, 35);
        check.finding(HEAD + "CLS*1*42~X", FRAME, 16);
        check.finding(HEAD + "CLS*0*42~" + nine + "~", TAIL, 25);
    }

    private static void tails() {
        String text = inSet("LVL*1**20*0~", 3);
        // Wherever it ends, but behind the last s: then it is all there.
        for (int n = 16; n < text.length(); n++) {
            check.finding(text.substring(0, n), TAIL, n);
            check.finding(text.substring(0, n) + "\n", TAIL, n + 1);
        }
        check.finding(text, 0, -1);
        check.finding(text + "x", TAIL, text.length());
        check.finding(text + "\n\n\nx\n", TAIL, text.length() + 3);
        // CLS as the 120th SEGMENT: what stands behind it is no 121st.
        String most = inSet("~".repeat(115), 117);
        check.finding(most + "~", TAIL, most.length());
        check.finding(most + "\rX~", TAIL, most.length() + 1);
    }

    private static void manySegments() {
        check.finding(inSet("~".repeat(114), 116), 0, -1);
        check.finding(inSet("~".repeat(115), 117), 0, -1);
        String more = inSet("~".repeat(116), 118);
        check.finding(more, MANY, more.length() - 9);
        String groups = HEAD + "GRP*HC*7~GEN*0*7~".repeat(60);
        check.finding(groups, TAIL, groups.length());
        check.finding(groups + "\r\nCLS*60*42~", MANY, groups.length() + 2);
    }

    private static void manyElements() {
        for (int n = 0; n <= 20; n++) {
            boolean fits = n <= 8;
            check.finding(inSet("A" + "*1".repeat(n) + "~", 3), fits ? 0 : MANY, fits ? -1 : 35);
            check.finding(inSet("\r\n" + "*".repeat(n) + "~", 3), fits ? 0 : MANY, fits ? -1 : 37);
        }
    }

    private static void manyBytes() {
        for (int e = 0; e <= 8; e++) {
            for (int n = 11; n <= 14; n++) {
                boolean fits = n <= 12;
                String segment = "*".repeat(e) + "X".repeat(n) + "*".repeat(8 - e);
                check.finding(inSet(segment + "~", 3), fits ? 0 : MANY, fits ? -1 : 35);
                check.finding(inSet("A*B~\n\n" + segment + "~", 4), fits ? 0 : MANY, fits ? -1 : 41);
            }
        }
        // p does not begin an ELEMENT anew.
        check.finding(inSet("A*123456:89012~", 3), 0, -1);
        check.finding(inSet("A*123456:789012~", 3), MANY, 35);
        check.finding(HEAD + "CLS*0*0000000000042~", MANY, 16);
    }

    private static void frames() {
        check.finding(HEAD + "ZZZ~", FRAME, 16);
        check.finding(HEAD + "\r\n\r\nZZZ~", FRAME, 20);
        check.finding(HEAD + "GRP*H*7~", FRAME, 16);
        check.finding(IN_SET + "END*2*1~\nGEN*2*7~", FRAME, 35 + 9);
        check.finding(IN_SET + "END*2*1~GEN*1*7~\nCLS*2*42~", FRAME, 35 + 17);
    }

    private static void takenOrNot() {
        String right = inSet("LVL*1**20*0~", 3);
        String[] wrong = {right.substring(1), right + "x", inSet("ABCDEFGHIJKLM~", 3), inSet("GRP~", 3)};
        for (int finding = 1; finding <= 4; finding++) {
            LoopEnvelopes x = Check.taken(right);
            check.due("SETS when it is TAKEN", x.count(2), 1);
            x.cut(0);
            Check.append(x, wrong[finding - 1]);
            check.due("SETS ahead of the next read()", x.count(2), 1);
            check.due("read()", x.read(), finding);
            check.due("SETS with FINDING " + finding, x.count(2), LoopEnvelopes.NOT);
            check.due("GROUP 0 with FINDING " + finding, x.group(0, 0), LoopEnvelopes.NOT);
            check.due("SET 0 with FINDING " + finding, x.setOf(0, 0), LoopEnvelopes.NOT);
            check.due("LVL 0 with FINDING " + finding, x.level(0, 0, 1), LoopEnvelopes.NOT);
            check.due("SEGMENT 0 with FINDING " + finding, x.size(0, 0), LoopEnvelopes.NOT);
            x.cut(0);
            Check.append(x, right);
            check.due("read() of what is right again", x.read(), 0);
            check.due("SETS when it is TAKEN again", x.count(2), 1);
        }
    }
}
