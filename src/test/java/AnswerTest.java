/** Promises 15, 16 and 17: answer, answered, turn, with part 4 of the document's terms. */
public final class AnswerTest {
    private static final Check check = new Check();
    private static final String RIGHT = "SET*837*1~END*2*1~";

    public static void main(String[] args) {
        groupsAndSets();
        asTheyCame();
        faults();
        ownSeparators();
        places();
        full();
        turning();
        stays();
        check.end();
    }

    private static void answers(String text, String want) {
        LoopEnvelopes x = Check.taken(text);
        check.due("answer() of " + Check.shown(text), x.answer(), want.length());
        check.due("answered() of " + Check.shown(text), Check.answered(x), want);
        check.due("count(6) of " + Check.shown(text), x.count(6), want.length());
        check.due("answered(-1)", x.answered(-1), LoopEnvelopes.UNKNOWN);
        check.due("answered(" + want.length() + ")", x.answered(want.length()), LoopEnvelopes.UNKNOWN);
    }

    private static void groupsAndSets() {
        answers("OPN*000000042*:~CLS*0*42~", "");
        answers(Check.envelope(0, ""), "AGR*HC*7~AGE*A*0*0~");
        answers(Check.envelope(1, RIGHT), "AGR*HC*7~AST*837*1~AEN*A~AGE*A*1*1~");
        answers(Check.envelope(2, RIGHT + "SET*837*2~END*2*3~"),
                "AGR*HC*7~AST*837*1~AEN*A~AST*837*2~AFT*2*END*3~AEN*R~AGE*P*2*1~");
        answers(Check.envelope(1, "SET*837*2~END*2*3~"), "AGR*HC*7~AST*837*2~AFT*2*END*3~AEN*R~AGE*R*1*0~");
        answers("OPN*000000042*:~GRP*AA*1~" + RIGHT + "GEN*1*1~GRP*BB*2~SET*837*2~END*2*3~GEN*1*2~GRP*CC*3~GEN*0*3~CLS*3*42~",
                "AGR*AA*1~AST*837*1~AEN*A~AGE*A*1*1~AGR*BB*2~AST*837*2~AFT*2*END*3~AEN*R~AGE*R*1*0~AGR*CC*3~AGE*A*0*0~");
    }

    private static void asTheyCame() {
        answers("OPN*000000042*:~GRP*HC*0007~SET*837*0001~END*0002*01~GEN*01*7~CLS*1*42~",
                "AGR*HC*0007~AST*837*0001~AEN*A~AGE*A*1*1~");
        answers(Check.envelope(1, "SET~END*2*1~"), "AGR*HC*7~AST**~AFT*1*SET*3~AEN*R~AGE*R*1*0~");
        answers(Check.envelope(1, "SET*a:b~END*2*1~"), "AGR*HC*7~AST*a:b*~AFT*1*SET*3~AEN*R~AGE*R*1*0~");
        answers(Check.envelope(1, "SET**" + (char) 233 + "\n*3~END*2*1~"),
                "AGR*HC*7~AST**" + (char) 233 + "\n~AFT*1*SET*3~AEN*R~AGE*R*1*0~");
    }

    private static void faults() {
        answers(Check.envelope(1, "SET*837*1~~ABCDEFGHIJKL*1~\r\nX\n~LVL*2**20*0~NAM*A~LIN~END*8*1~"),
                "AGR*HC*7~AST*837*1~AFT*2**1~AFT*3*ABCDEFGHIJKL*1~AFT*4*X\n*1~AFT*5*LVL*4~AFT*6*NAM*3~AEN*R~AGE*R*1*0~");
        answers(Check.envelope(1, "SET*837*1~LVL*1**20*1~LVL*2*1*22*1~CLM*R*0~CLM*S*1~LVL*3*1*22*0~CLM*T*1~END*8*1~"),
                "AGR*HC*7~AST*837*1~AFT*3*LVL*5~AFT*4*CLM*4~AFT*5*CLM*4~AFT*7*CLM*6~AEN*R~AGE*R*1*0~");
    }

    private static void ownSeparators() {
        answers("OPN+000000001+/'GRP+HC+7'SET+837+1'~'END+3+1'GEN+1+7'CLS+1+1'",
                "AGR+HC+7'AST+837+1'AFT+2+~+1'AEN+R'AGE+R+1+0'");
        char zero = (char) 0;
        String text = Check.envelope(1, RIGHT).replace('*', zero).replace('~', 'a');
        answers(text, "AGR*HC*7~AST*837*1~AEN*A~AGE*A*1*1~".replace('*', zero).replace('~', 'a'));
    }

    private static void places() {
        // As many figures as the place has.
        answers(Check.envelope(1, Check.set("LVL*1**20*0~" + "NAM*A*B~".repeat(6) + "X~X~")),
                "AGR*HC*7~AST*837*1~AFT*9*X*1~AFT*10*X*1~AEN*R~AGE*R*1*0~");
        answers(Check.envelope(1, Check.set("LVL*1**20*0~" + "NAM*A*B~".repeat(96) + "X~X~X~")),
                "AGR*HC*7~AST*837*1~AFT*99*X*1~AFT*100*X*1~AFT*101*X*1~AEN*R~AGE*R*1*0~");
        answers(Check.envelope(11, RIGHT.repeat(10) + "SET*837*1~END*3*1~"), "AGR*HC*7~" + "AST*837*1~AEN*A~".repeat(10)
                + "AST*837*1~AFT*2*END*3~AEN*R~AGE*P*11*10~");
    }

    private static void full() {
        LoopEnvelopes x = Check.taken(Check.answering(22, 2000));
        check.due("answer() of 2000", x.answer(), 2000);
        check.due("count(6)", x.count(6), 2000);
        check.due("answered(1999)", x.answered(1999), '~');
        check.due("answered(2000)", x.answered(2000), LoopEnvelopes.UNKNOWN);
        check.due("turn() of 2000", x.turn(), LoopEnvelopes.FULL);
        check.due("THE ANSWER stays", x.count(6), 2000);
        x.cut(0);
        Check.append(x, Check.answering(22, 2001));
        check.due("read()", x.read(), 0);
        int length = x.count(5);
        check.due("THE ANSWER is the earlier one", x.count(6), 2000);
        check.due("answer() of 2001", x.answer(), LoopEnvelopes.FULL);
        check.due("it is empty", x.count(6), 0);
        check.due("it has no byte", x.answered(0), LoopEnvelopes.UNKNOWN);
        check.due("turn() of nothing", x.turn(), LoopEnvelopes.NOT);
        check.due("THE TEXT stays", x.count(5), length);
        check.due("it is TAKEN", x.count(2), 22);
        x.cut(0);
        Check.append(x, Check.envelope(1, RIGHT));
        check.due("read() of less", x.read(), 0);
        check.due("answer() is written again", x.answer(), 35);
    }

    private static void turning() {
        LoopEnvelopes x = Check.taken(Check.envelope(1, RIGHT));
        check.due("turn() ahead of answer()", x.turn(), LoopEnvelopes.NOT);
        check.due("answer()", x.answer(), 35);
        check.due("turn()", x.turn(), 35);
        check.due("count(5)", x.count(5), 35);
        check.due("count(6)", x.count(6), 35);
        check.due("what was read stays told", x.count(2), 1);
        check.due("and its bytes", x.byteOf(0, 0, 0), 'G');
        check.due("answer() again", x.answer(), 35);
        for (int i = 0; i < 35; i++) {
            check.due("byte " + i, x.set(i, 0), "AGR*HC*7~AST*837*1~AEN*A~AGE*A*1*1~".charAt(i));
        }
        check.due("THE ANSWER is as it was", x.answered(0), 'A');
        check.due("read()", x.read(), 1);
        check.due("turn() again", x.turn(), 35);
        check.due("the byte is back", x.set(0, 1), 'A');
    }

    private static void stays() {
        LoopEnvelopes x = Check.taken(Check.envelope(1, RIGHT));
        x.answer();
        x.cut(10);
        check.due("read()", x.read(), 1);
        check.due("answer() without taking", x.answer(), LoopEnvelopes.NOT);
        check.due("THE ANSWER stays", x.count(6), 35);
        check.due("answered(34)", x.answered(34), '~');
        x.cut(0);
        Check.append(x, "OPN*000000042*:~CLS*0*42~");
        check.due("read() again", x.read(), 0);
        check.due("THE ANSWER stays until it is written", x.count(6), 35);
        check.due("answer() of no GROUPS", x.answer(), 0);
        check.due("it is empty", x.answered(0), LoopEnvelopes.UNKNOWN);
        check.due("turn() of nothing", x.turn(), LoopEnvelopes.NOT);
        check.due("THE TEXT stays", x.count(5), 25);
        // 1200 bytes turn, 1201 don't.
        turnsAt(1200, 1200);
        turnsAt(1201, LoopEnvelopes.FULL);
    }

    private static void turnsAt(int bytes, int want) {
        LoopEnvelopes x = Check.taken(Check.answering(12, bytes));
        int before = x.count(5);
        check.due("answer() of " + bytes, x.answer(), bytes);
        check.due("turn() of " + bytes, x.turn(), want);
        check.due("count(5) of " + bytes, x.count(5), want == LoopEnvelopes.FULL ? before : bytes);
    }
}
