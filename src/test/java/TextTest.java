/** Promises 1 to 4: a new object, feed, set, cut. */
public final class TextTest {
    private static final Check check = new Check();

    public static void main(String[] args) {
        newObject();
        feed();
        feedUntilFull();
        set();
        cut();
        whatWasReadStaysTold();
        check.end();
    }

    private static void newObject() {
        LoopEnvelopes x = new LoopEnvelopes();
        check.due("new: where()", x.where(), LoopEnvelopes.NONE);
        check.due("new: count(5)", x.count(5), 0);
        check.due("new: count(6)", x.count(6), 0);
        for (int what = 0; what <= 4; what++) {
            check.due("new: count(" + what + ")", x.count(what), LoopEnvelopes.NOT);
        }
        check.due("new: group(0, 0)", x.group(0, 0), LoopEnvelopes.NOT);
        check.due("new: setOf(0, 0)", x.setOf(0, 0), LoopEnvelopes.NOT);
        check.due("new: fault(0, 0, 0)", x.fault(0, 0, 0), LoopEnvelopes.NOT);
        check.due("new: level(0, 0, 0)", x.level(0, 0, 0), LoopEnvelopes.NOT);
        check.due("new: claim(0, 0, 0)", x.claim(0, 0, 0), LoopEnvelopes.NOT);
        check.due("new: size(0, -1)", x.size(0, -1), LoopEnvelopes.NOT);
        check.due("new: byteOf(0, -1, 0)", x.byteOf(0, -1, 0), LoopEnvelopes.NOT);
        check.due("new: answer()", x.answer(), LoopEnvelopes.NOT);
        check.due("new: answered(0)", x.answered(0), LoopEnvelopes.UNKNOWN);
        check.due("new: turn()", x.turn(), LoopEnvelopes.NOT);
        check.due("new: cut(0)", x.cut(0), 0);
        check.due("new: set(0, 0)", x.set(0, 0), LoopEnvelopes.UNKNOWN);
    }

    private static void feed() {
        LoopEnvelopes x = new LoopEnvelopes();
        check.due("feed n 0", x.feed(65, 0), LoopEnvelopes.OUTSIDE);
        check.due("feed n -1", x.feed(65, -1), LoopEnvelopes.OUTSIDE);
        check.due("feed n 9", x.feed(65, 9), LoopEnvelopes.OUTSIDE);
        check.due("feed n least", x.feed(65, Integer.MIN_VALUE), LoopEnvelopes.OUTSIDE);
        check.due("feed n most", x.feed(65, Integer.MAX_VALUE), LoopEnvelopes.OUTSIDE);
        check.due("nothing fed", x.count(5), 0);
        check.due("feed 3 of more", x.feed(0x1122334455667788L, 3), 3);
        check.due("the highest of them first", x.set(0, 0), 0x66);
        check.due("the next", x.set(1, 0), 0x77);
        check.due("the lowest last", x.set(2, 0), 0x88);
        check.due("feed below 0", x.feed(-2, 8), 11);
        check.due("a byte is 0 .. 255", x.set(3, 0), 255);
        check.due("the last", x.set(10, 0), 254);
    }

    private static void feedUntilFull() {
        LoopEnvelopes x = new LoopEnvelopes();
        for (int i = 1; i <= 149; i++) {
            check.due("feed " + i, x.feed(i, 8), 8 * i);
        }
        check.due("feed 1", x.feed(9, 1), 1193);
        check.due("feed 8 is too much", x.feed(9, 8), LoopEnvelopes.FULL);
        check.due("nothing came", x.count(5), 1193);
        check.due("feed 7 fits", x.feed(9, 7), 1200);
        check.due("feed 1 is too much", x.feed(9, 1), LoopEnvelopes.FULL);
        check.due("OUTSIDE ahead of FULL", x.feed(9, 9), LoopEnvelopes.OUTSIDE);
        check.due("the last byte", x.set(1199, 1), 9);
        check.due("none behind it", x.set(1200, 1), LoopEnvelopes.UNKNOWN);
    }

    private static void set() {
        LoopEnvelopes x = Check.with("AB");
        check.due("set(0, 255)", x.set(0, 255), 'A');
        check.due("set(0, 0)", x.set(0, 0), 255);
        check.due("set(0, 256)", x.set(0, 256), LoopEnvelopes.OUTSIDE);
        check.due("set(0, -1)", x.set(0, -1), LoopEnvelopes.OUTSIDE);
        check.due("unchanged", x.set(0, 7), 0);
        check.due("set(-1, 1)", x.set(-1, 1), LoopEnvelopes.UNKNOWN);
        check.due("set(2, 1)", x.set(2, 1), LoopEnvelopes.UNKNOWN);
        check.due("UNKNOWN ahead of OUTSIDE", x.set(2, 256), LoopEnvelopes.UNKNOWN);
        check.due("the other byte", x.set(1, 1), 'B');
        check.due("no byte more", x.count(5), 2);
    }

    private static void cut() {
        LoopEnvelopes x = Check.with("ABCDEF");
        check.due("cut(-1)", x.cut(-1), LoopEnvelopes.OUTSIDE);
        check.due("cut(7)", x.cut(7), LoopEnvelopes.OUTSIDE);
        check.due("cut(6)", x.cut(6), 0);
        check.due("cut(4)", x.cut(4), 2);
        check.due("left", x.count(5), 4);
        check.due("cut(5)", x.cut(5), LoopEnvelopes.OUTSIDE);
        check.due("byte 4 went", x.set(4, 1), LoopEnvelopes.UNKNOWN);
        check.due("feed behind it", x.feed('Z', 1), 5);
        check.due("byte 3 stayed", x.set(3, 1), 'D');
        check.due("byte 4 is new", x.set(4, 1), 'Z');
        check.due("cut(0)", x.cut(0), 5);
        check.due("empty", x.count(5), 0);
    }

    private static void whatWasReadStaysTold() {
        LoopEnvelopes x = Check.taken(Check.envelope(1, Check.set("LVL*1**20*0~")));
        x.feed('X', 1);
        check.due("after feed: count(2)", x.count(2), 1);
        check.due("after feed: size(0, 1)", x.size(0, 1), 2);
        x.set(20, 'x');
        check.due("after set: byteOf(0, 1, 0)", x.byteOf(0, 1, 0), 'H');
        x.cut(0);
        check.due("after cut: byteOf(0, 1, 1)", x.byteOf(0, 1, 1), 'C');
        check.due("after cut: level(0, 0, 3)", x.level(0, 0, 3), 20);
        check.due("after cut: count(4)", x.count(4), 42);
        check.due("after cut: answer()", x.answer(), 38 - 3);
        check.due("after cut: count(5)", x.count(5), 0);
        check.due("read() of nothing", x.read(), 1);
        check.due("now there are none", x.count(2), LoopEnvelopes.NOT);
    }
}
