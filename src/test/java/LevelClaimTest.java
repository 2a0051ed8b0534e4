/** Promises 11 and 12: level and claim. */
public final class LevelClaimTest {
    private static final Check check = new Check();

    public static void main(String[] args) {
        levels();
        looseLevels();
        claims();
        claimsWithoutLevel();
        claimsByThemselves();
        refused();
        check.end();
    }

    private static void level(LoopEnvelopes x, int s, int k, int... want) {
        for (int what = 0; what < 6; what++) {
            check.due("level(" + s + ", " + k + ", " + what + ")", x.level(s, k, what), want[what]);
        }
    }

    private static void claim(LoopEnvelopes x, int s, int k, int... want) {
        for (int what = 0; what < 5; what++) {
            check.due("claim(" + s + ", " + k + ", " + what + ")", x.claim(s, k, what), want[what]);
        }
    }

    private static void levels() {
        LoopEnvelopes x = Check.taken(Check.envelope(2, Check.set("")
                + Check.set("LVL*0001**20*1~NAM*A*B~LVL*02*001*22*1~LVL*3*2*23*0~LVL*4*1*22*0~LVL*5**20*0~")));
        level(x, 1, 0, 1, 1, 0, 20, 1, 0);
        level(x, 1, 1, 3, 2, 1, 22, 1, 1);
        level(x, 1, 2, 4, 3, 2, 23, 0, 2);
        level(x, 1, 3, 5, 4, 1, 22, 0, 1);
        level(x, 1, 4, 6, 5, 0, 20, 0, 0);
        check.due("no LVL in the first SET", x.level(0, 0, 0), LoopEnvelopes.UNKNOWN);
        check.due("no LVL more", x.level(1, 5, 0), LoopEnvelopes.UNKNOWN);
    }

    private static void looseLevels() {
        LoopEnvelopes x = Check.taken(Check.envelope(1, Check.set(
                "LVL*1**21*0~LVL*7*9999*22*0~LVL*3*0000*20*1~LVL*4**20*0~LVL*5*4*22*1~LVL*6**23*0~LVL*7*1*22*0~")));
        level(x, 0, 0, 1, -1, -1, -1, -1, -1);
        level(x, 0, 1, 2, 7, 9999, 22, 0, -1);
        level(x, 0, 2, 3, 3, 0, 20, 1, -1);
        // The FAULT MORE leaves a LVL its depth.
        level(x, 0, 3, 4, 4, 0, 20, 0, 0);
        level(x, 0, 4, 5, 5, 4, 22, 1, 1);
        level(x, 0, 5, 6, 6, 0, 23, 0, -1);
        level(x, 0, 6, 7, 7, 1, 22, 0, -1);
    }

    private static void claims() {
        LoopEnvelopes x = Check.taken(Check.envelope(1, Check.set(
                "LVL*1**20*1~LVL*2*1*22*0~CLM*R1*30.50~LIN*1*A*20~LIN*9*B*10.50~LIN*3*C*x~LIN~CLM*R2*-1~LVL*3*1*22*0~"
                + "CLM*R3*1.5~LIN*1*A*-0.07~NAM*A*B~LIN*2*A*5~")));
        claim(x, 0, 0, 3, 3050, 1, 4, 3050);
        claim(x, 0, 1, 8, -100, 1, 0, 0);
        claim(x, 0, 2, 10, 0, 2, 1, -7);
        check.due("no CLM more", x.claim(0, 3, 0), LoopEnvelopes.UNKNOWN);
    }

    private static void claimsWithoutLevel() {
        LoopEnvelopes x = Check.taken(Check.envelope(2, Check.set("LVL*1**20*0~")
                + Check.set("CLM*A*99999.99~LIN*1*B*99999.99~LIN*2*B*99999.99~LVL~CLM*B*-99999~")));
        claim(x, 1, 0, 1, 9999999, -1, 2, 19999998);
        claim(x, 1, 1, 5, -9999900, 0, 0, 0);
    }

    private static void claimsByThemselves() {
        // The LINS of the next SET are not behind the last CLM of this one.
        LoopEnvelopes x = Check.taken(Check.envelope(2, Check.set("CLM*A*1~LIN*1*A*1~") + Check.set("LIN*1*A*1~")));
        claim(x, 0, 0, 1, 100, -1, 1, 100);
    }

    private static void refused() {
        LoopEnvelopes x = Check.taken(Check.envelope(1, Check.set("LVL*1**20*1~LVL*2*1*22*0~CLM*A*0~")));
        check.due("level(0, 0, 6)", x.level(0, 0, 6), LoopEnvelopes.OUTSIDE);
        check.due("level(0, 0, -1)", x.level(0, 0, -1), LoopEnvelopes.OUTSIDE);
        check.due("level(0, 2, 6)", x.level(0, 2, 6), LoopEnvelopes.UNKNOWN);
        check.due("level(0, -1, 0)", x.level(0, -1, 0), LoopEnvelopes.UNKNOWN);
        check.due("level(1, 0, 0)", x.level(1, 0, 0), LoopEnvelopes.UNKNOWN);
        check.due("level(-1, 0, 0)", x.level(-1, 0, 0), LoopEnvelopes.UNKNOWN);
        check.due("claim(0, 0, 5)", x.claim(0, 0, 5), LoopEnvelopes.OUTSIDE);
        check.due("claim(0, 0, -1)", x.claim(0, 0, -1), LoopEnvelopes.OUTSIDE);
        check.due("claim(0, 1, 5)", x.claim(0, 1, 5), LoopEnvelopes.UNKNOWN);
        check.due("claim(0, -1, 0)", x.claim(0, -1, 0), LoopEnvelopes.UNKNOWN);
        check.due("claim(1, 0, 0)", x.claim(1, 0, 0), LoopEnvelopes.UNKNOWN);
        check.due("claim(-1, 0, 0)", x.claim(-1, 0, 0), LoopEnvelopes.UNKNOWN);
        // An ILL LVL is looked at for OUTSIDE all the same.
        LoopEnvelopes ill = Check.taken(Check.envelope(1, Check.set("LVL~")));
        check.due("ill: level(0, 0, 6)", ill.level(0, 0, 6), LoopEnvelopes.OUTSIDE);
        x.cut(3);
        x.read();
        check.due("level without taking", x.level(9, 9, 9), LoopEnvelopes.NOT);
        check.due("claim without taking", x.claim(9, 9, 9), LoopEnvelopes.NOT);
    }
}
