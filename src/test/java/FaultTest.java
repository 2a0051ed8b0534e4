/** Promise 10: fault, with what is wrong in a SET (part 3 of the document's terms). */
public final class FaultTest {
    private static final Check check = new Check();

    public static void main(String[] args) {
        names();
        order();
        formOfSetAndEnd();
        formOfLevels();
        formOfWordsAndAmounts();
        formOfLines();
        linkOfLevels();
        linkOfClaims();
        linkOfLines();
        more();
        sums();
        refused();
        check.end();
    }

    /** The FAULTS of a SET with these SEGMENTS between SET and END. */
    private static void faults(String segments, String want) {
        LoopEnvelopes x = Check.taken(Check.envelope(1, Check.set(segments)));
        check.due("faults of " + segments, Check.faults(x, 0), want);
        check.due("count(3) of " + segments, x.count(3), want.isEmpty() ? 1 : 0);
    }

    private static void names() {
        faults("", "");
        faults("ZZZ*1~", "2:1");
        faults("~", "2:1");
        faults("lvl*1**20*0~", "2:1");
        faults("LV~LVLS~OPN~", "2:1 3:1 4:1");
        faults("LVL:*1**20*0~", "2:1");
        faults("\r\nLVL*1**20*0~\n~", "3:1");
    }

    private static void order() {
        faults("NAM*A*B~", "2:2");
        faults("LVL*1**20*0~NAM*A*B~NAM*C*D~", "");
        faults("LVL*1**20*0~ZZZ~NAM*A*B~NAM*A*B~", "3:1 4:2");
        // ORDER ahead of FORM; an ILL SEGMENT ahead counts by its NAME.
        faults("NAM~", "2:2");
        faults("LVL~NAM*A*B~", "2:3");
        faults("LVL*1**20*0~NAM~NAM*A*B~", "3:3");
        faults("LIN*1*A*1~", "2:2");
        faults("CLM*A*0~", "2:2");
        faults("CLM~", "2:2");
        faults("LVL~CLM*A*0~", "2:3 3:4");
        faults("CLM*A*1~LIN*1*B*1~", "2:2");
        faults("CLM~LIN*1*B*1~LIN*2*B*1~", "2:2");
        faults("CLM*A*0~NAM*A*B~LIN*1*B*1~", "2:2 3:2 4:2");
        faults("CLM*A*0~LVL*1**20*0~", "2:2");
    }

    private static void formOfSetAndEnd() {
        String[][] rows = {
            {"SET*837*1~END*2*1~", ""}, {"SET*000*000000001~END*000002*1~", ""},
            {"SET~END*2*1~", "1:3"}, {"SET*837~END*2*1~", "1:3"}, {"SET*837*1*~END*2*1~", "1:3"},
            {"SET*83*1~END*2*7~", "1:3"}, {"SET*8370*1~END*2*1~", "1:3"}, {"SET*83x*1~END*2*1~", "1:3"},
            {"SET*837*~END*2*7~", "1:3"}, {"SET*837*1234567890~END*2*7~", "1:3"}, {"SET*837*-1~END*2*1~", "1:3"},
            {"SET*837*123456789~END*2*123456789~", ""},
            {"SET*837*1~END~", "2:3"}, {"SET*837*1~END*2~", "2:3"}, {"SET*837*1~END*2*1*1~", "2:3"},
            {"SET*837*1~END*3*1~", "2:3"}, {"SET*837*1~END*1*1~", "2:3"}, {"SET*837*1~END*2*2~", "2:3"},
            {"SET*837*1~END*0000002*1~", "2:3"}, {"SET*837*1~END**1~", "2:3"}, {"SET*837*1~END*2*~", "2:3"},
            {"SET*837*1~END*2*0000000001~", "2:3"}, {"SET*837*1~END*2*1x~", "2:3"},
            {"SET*83*1~END*3*1~", "1:3 2:3"}, {"SET*83*1~END*2*x~", "1:3 2:3"}, {"SET*83*1~END*2~", "1:3 2:3"},
        };
        for (String[] row : rows) {
            LoopEnvelopes x = Check.taken(Check.envelope(1, row[0]));
            check.due("faults of " + row[0], Check.faults(x, 0), row[1]);
        }
    }

    private static void formOfLevels() {
        for (String level : new String[] {"LVL", "LVL*1**20", "LVL*1**20*0*", "LVL***20*0", "LVL*x**20*0", "LVL*00001**20*0",
                "LVL*1*x*20*0", "LVL*1*12345*20*0", "LVL*1**21*0", "LVL*1**24*0", "LVL*1**020*0", "LVL*1**2*0",
                "LVL*1***0", "LVL*1**20*2", "LVL*1**20*00", "LVL*1**20*", "LVL*1**20*-", "LVL*-1**20*0", "LVL*1** 20*0"}) {
            faults(level + "~", "2:3");
        }
        faults("LVL*0001**20*0~", "");
        faults("LVL*1**20*1~LVL*0002*0001*22*1~LVL*3*02*23*0~", "");
    }

    private static void formOfWordsAndAmounts() {
        String level = "LVL*1**20*1~LVL*2*1*22*0~";
        for (String name : new String[] {"NAM", "NAM*A", "NAM**B", "NAM*A*", "NAM*A*B*C"}) {
            faults("LVL*1**20*0~" + name + "~", "3:3");
        }
        faults("LVL*1**20*0~NAM*123456789012*a:b c:d\n~", "");
        for (String claim : new String[] {"CLM", "CLM*A", "CLM**0", "CLM*A*0*0"}) {
            faults(level + claim + "~", "4:3");
        }
        for (String none : new String[] {"", "-", "x", "0.0", "0.", "0.000", ".00", "-.00", "000000", "000000.00", "--0", "+0", "0.0x",
                "0-", "0,00", "0.-0", " 0", "00000.0", "0:00", "1.2.3", "0..00", "-000000"}) {
            faults(level + "CLM*A*" + none + "~", "4:3");
        }
        for (String nothing : new String[] {"0", "00000", "-0", "0.00", "-00000.00"}) {
            faults(level + "CLM*123456789012*" + nothing + "~", "");
        }
    }

    private static void formOfLines() {
        String head = "LVL*1**20*1~LVL*2*1*22*0~CLM*R*0~";
        for (String line : new String[] {"LIN", "LIN*1*A", "LIN*1*A*0*0", "LIN**A*0", "LIN*x*A*0", "LIN*0001*A*0", "LIN*1**0",
                "LIN*1*ABCDEF*0", "LIN*1*ABCDEF:A*0", "LIN*1*:A*0", "LIN*1*:*0", "LIN*1*A:B:C*0", "LIN*1*A::*0", "LIN*1*A*",
                "LIN*1*A*0.0", "LIN*1*A*000000"}) {
            faults(head + line + "~", "5:3");
        }
        for (String line : new String[] {"LIN*001*A*0", "LIN*1*ABCDE*0", "LIN*1*ABCDE:ABCDEF*0", "LIN*1*A:*0", "LIN*1*-*0"}) {
            faults(head + line + "~", "");
        }
    }

    private static void linkOfLevels() {
        faults("LVL*0**20*0~", "2:4");
        faults("LVL*2**20*0~", "2:4");
        faults("LVL*1**20*0~LVL*1**20*0~", "3:4");
        // The ILL ones ahead count.
        faults("LVL~LVL*2**20*0~", "2:3");
        faults("LVL~LVL*1**20*0~", "2:3 3:4");
        faults("LVL*1*1*20*0~", "2:4");
        faults("LVL*1*0*20*0~", "2:4");
        faults("LVL*1**22*0~", "2:4");
        faults("LVL*1**23*0~", "2:4");
        faults("LVL*1*1*22*0~", "2:4");
        faults("LVL*1**20*1~LVL*2*1*23*0~", "3:4");
        faults("LVL*1**20*1~LVL*2*1*22*1~LVL*3*2*22*0~", "4:4");
        faults("LVL*1**20*1~LVL*2*1*22*0~LVL*3*1*22*0~", "");
        faults("LVL*1**20*1~LVL*2*1*22*1~LVL*3*2*23*0~LVL*4*2*23*0~", "");
        faults("LVL*1**20*1~LVL*2*1*22*1~LVL*3*2*23*1~LVL*4*3*23*0~", "5:4");
        // A PARENT that comes later, that is not there, or that is LOOSE.
        faults("LVL*1*2*22*0~LVL*2**20*0~", "2:4");
        faults("LVL*1**20*0~LVL*2*3*22*0~", "3:4");
        faults("LVL*1**20*0~LVL*2*0*22*0~", "3:4");
        faults("LVL*1**21*1~LVL*2*1*22*0~", "2:3 3:4");
        faults("LVL*5**20*1~LVL*2*5*22*0~LVL*3*1*22*0~", "2:4 3:4 4:4");
        faults("LVL*1**20*1~LVL*2*2*22*1~LVL*3*2*23*0~", "2:5 3:4 4:4");
        // LINK ahead of MORE.
        faults("LVL*2**20*1~", "2:4");
        // IDS begin anew in each SET.
        String set = Check.set("LVL*1**20*0~");
        LoopEnvelopes x = Check.taken(Check.envelope(2, set + set));
        check.due("faults of the second SET", Check.faults(x, 1), "");
    }

    private static void linkOfClaims() {
        faults("LVL*1**20*0~CLM*A*0~", "3:4");
        faults("LVL*1**20*1~LVL*2*1*22*1~CLM*A*0~LVL*3*2*23*0~", "4:4");
        faults("LVL*1**20*1~LVL*2*1*22*0~CLM*A*0~", "");
        faults("LVL*1**20*1~LVL*2*1*22*1~LVL*3*2*23*0~CLM*A*0~", "");
        faults("LVL*1**20*1~LVL*2*1*22*1~LVL*3*2*23*1~CLM*A*0~", "4:5");
        faults("LVL*1**20*1~LVL*2*1*22*0~LVL*4*1*22*0~CLM*A*0~", "4:4 5:4");
        faults("LVL*1**20*1~LVL*2*1*22*0~LVL*3*1*24*0~CLM*A*0~", "4:3 5:4");
        // The last LVL ahead counts, whatever stands between.
        faults("LVL*1**20*1~LVL*2*1*22*0~NAM*A*B~CLM*A*0~ZZZ~CLM*B*0~", "6:1");
        faults("LVL*1**20*1~LVL*2*1*22*0~LVL*3**20*0~CLM*B*0~", "5:4");
        // LINK ahead of SUM; a LVL with the FAULT MORE is not LOOSE.
        faults("LVL*1**20*0~CLM*A*9~", "3:4");
        faults("LVL*1**20*0~LVL*2*1*22*0~CLM*A*0~", "2:5");
    }

    private static void linkOfLines() {
        String head = "LVL*1**20*1~LVL*2*1*22*0~";
        faults(head + "CLM*R*0~LIN*1*A*0~LIN*2*A*0~LIN*003*A*0~", "");
        faults(head + "CLM*R*0~LIN*0*A*0~", "5:4");
        faults(head + "CLM*R*0~LIN*2*A*0~", "5:4");
        faults(head + "CLM*R*0~LIN*1*A*0~LIN*1*A*0~", "6:4");
        faults(head + "CLM*R*0~LIN~LIN*2*A*0~LIN*2*A*0~", "5:3 7:4");
        faults(head + "CLM*R*0~LIN*1*A*0~CLM*R*0~LIN*1*A*0~", "");
        faults(head + "CLM*R*0~LIN*1*A*0~CLM*R*0~LIN*2*A*0~", "7:4");
        // Behind a LIN that is out of order, those behind the last CLM count.
        faults(head + "CLM*R*0~LIN*1*A*0~NAM*A*B~LIN*2*A*0~LIN*3*A*0~LIN*3*A*0~", "6:2 7:2 9:4");
        faults("LIN*1*A*0~LIN*2*A*0~LIN*2*A*0~", "2:2 4:4");
    }

    private static void more() {
        faults("LVL*1**20*1~", "2:5");
        faults("LVL*1**20*0~LVL*2*1*22*0~", "2:5");
        faults("LVL*1**20*1~LVL*2*1*22*0~", "");
        faults("LVL*1**20*1~LVL*2*1*22*1~LVL*3*2*23*1~", "4:5");
        faults("LVL*1**20*1~LVL*2*1*22*0~LVL*3*2*23*0~", "3:5");
        // An ILL LVL is nobody's; one with the FAULT LINK is.
        faults("LVL*1**20*0~LVL*2*1*22*2~", "3:3");
        faults("LVL*1**20*1~LVL*2*1*22*2~", "2:5 3:3");
        faults("LVL*1**20*0~LVL*3*1*22*0~", "2:5 3:4");
        faults("LVL*1**20*1~LVL*3*1*23*0~", "3:4");
        faults("LVL*1**20*1~LVL*2**20*0~LVL*3*1*22*0~", "");
        // Only the LVLS of the same SET count, and only those behind it.
        LoopEnvelopes x = Check.taken(Check.envelope(2, Check.set("LVL*1**20*0~") + Check.set("LVL*1*1*22*0~")));
        check.due("the first SET", Check.faults(x, 0), "");
        check.due("the second SET", Check.faults(x, 1), "2:4");
        faults("LVL*1*2*22*0~LVL*2**20*1~", "2:4 3:5");
    }

    private static void sums() {
        String head = "LVL*1**20*1~LVL*2*1*22*0~";
        faults(head + "CLM*R*3~LIN*1*A*1~LIN*2*A*2~", "");
        faults(head + "CLM*R*3.01~LIN*1*A*1~LIN*2*A*2~", "4:6");
        faults(head + "CLM*R*-1.05~LIN*1*A*1~LIN*2*A*-2.05~", "");
        faults(head + "CLM*R*1~", "4:6");
        faults(head + "CLM*R*1~LIN*1*A*1~LIN*2*A*2.0~", "6:3");
        faults(head + "CLM*R*1~LIN*1*A*1~LIN*3*A*2~", "4:6 6:4");
        faults(head + "CLM*R*3~LIN*1*A*1~LIN*3*A*2~", "6:4");
        faults(head + "CLM*R*1~LIN*1*A*1~ZZZ~LIN*2*A*2~", "6:1 7:2");
        faults(head + "CLM*R*1~LIN*1*A*1~CLM*R*2~LIN*1*A*2~", "");
        faults(head + "CLM*R*1~CLM*R*1~LIN*1*A*1~", "4:6");
        faults(head + "CLM*R*2~CLM*R*1~LIN*1*A*1~", "4:6");
        faults(head + "CLM*R*1~ZZZ~LIN*1*A*1~", "4:6 5:1 6:2");
        faults(head + "CLM*R*0.10~LIN*1*A*-99999.99~LIN*2*A*99999.99~LIN*3*A*0.10~", "");
        faults(head + "CLM*R*99999.99~LIN*1*A*99999~LIN*2*A*0.99~", "");
        faults(head + "CLM*R*-0.01~LIN*1*A*-0.01~", "");
    }

    private static void refused() {
        LoopEnvelopes x = Check.taken(Check.envelope(2, Check.set("ZZZ~") + Check.set("")));
        check.due("fault(0, 0, 0)", x.fault(0, 0, 0), 2);
        check.due("fault(0, 0, 1)", x.fault(0, 0, 1), 1);
        check.due("fault(0, 0, 2)", x.fault(0, 0, 2), LoopEnvelopes.OUTSIDE);
        check.due("fault(0, 0, -1)", x.fault(0, 0, -1), LoopEnvelopes.OUTSIDE);
        check.due("fault(0, 1, 0)", x.fault(0, 1, 0), LoopEnvelopes.UNKNOWN);
        check.due("fault(0, -1, 0)", x.fault(0, -1, 0), LoopEnvelopes.UNKNOWN);
        check.due("fault(1, 0, 0)", x.fault(1, 0, 0), LoopEnvelopes.UNKNOWN);
        check.due("fault(2, 0, 0)", x.fault(2, 0, 0), LoopEnvelopes.UNKNOWN);
        check.due("fault(-1, 0, 0)", x.fault(-1, 0, 0), LoopEnvelopes.UNKNOWN);
        check.due("UNKNOWN ahead of OUTSIDE", x.fault(0, 1, 2), LoopEnvelopes.UNKNOWN);
        x.cut(20);
        x.read();
        check.due("NOT ahead of UNKNOWN", x.fault(9, 9, 9), LoopEnvelopes.NOT);
    }
}
