import java.nio.charset.StandardCharsets;

/** Counts the answers of a test that are not as due, and ends it with exit code 1 if there was one. */
final class Check {
    private int asked = 0;
    private int wrong = 0;

    void due(String call, long got, long want) {
        asked++;
        if (got != want) {
            wrong++;
            System.out.println(call + " answered " + got + ", due is " + want);
        }
    }

    void due(String call, String got, String want) {
        asked++;
        if (!got.equals(want)) {
            wrong++;
            System.out.println(call + " answered \"" + got + "\", due is \"" + want + "\"");
        }
    }

    /** What a new object tells of this text when it is read. */
    void finding(String text, int finding, int place) {
        LoopEnvelopes x = with(text);
        due("read() of " + shown(text), x.read(), finding);
        due("where() of " + shown(text), x.where(), place);
        due("count(2) of " + shown(text), x.count(2) == LoopEnvelopes.NOT ? 1 : 0, finding == 0 ? 0 : 1);
    }

    void end() {
        System.out.println(wrong == 0 ? asked + " answers are as due" : wrong + " of " + asked + " answers are wrong");
        if (wrong != 0 || asked == 0) {
            System.exit(1);
        }
    }

    static LoopEnvelopes with(String text) {
        LoopEnvelopes x = new LoopEnvelopes();
        append(x, text);
        return x;
    }

    static LoopEnvelopes taken(String text) {
        LoopEnvelopes x = with(text);
        if (x.read() != 0) {
            System.out.println("read() told " + x.read() + " at " + x.where() + " of " + shown(text));
            System.exit(1);
        }
        return x;
    }

    static void append(LoopEnvelopes x, String text) {
        byte[] bytes = text.getBytes(StandardCharsets.ISO_8859_1);
        for (int from = 0; from < bytes.length; from += 8) {
            int n = Math.min(8, bytes.length - from);
            long w = 0;
            for (int i = 0; i < n; i++) {
                w = (w << 8) | (bytes[from + i] & 255);
            }
            int told = x.feed(w, n);
            if (told < 0) {
                System.out.println("feed refused a part of " + shown(text) + " with " + told);
                System.exit(1);
            }
        }
    }

    static String answered(LoopEnvelopes x) {
        StringBuilder told = new StringBuilder();
        for (int i = 0; i < x.count(6); i++) {
            told.append((char) x.answered(i));
        }
        return told.toString();
    }

    /** All that an object tells, its TEXT too: alike for two of them, if no call can tell them apart. */
    static String state(LoopEnvelopes x) {
        return wasRead(x) + " text " + text(x) + " answer " + answered(x);
    }

    /** What was read, as far as a call tells it. */
    static String wasRead(LoopEnvelopes x) {
        StringBuilder told = new StringBuilder("where ").append(x.where());
        for (int what = 0; what < 5; what++) {
            told.append(" count ").append(x.count(what));
        }
        for (int g = 0; g < x.count(1); g++) {
            for (int what = 0; what < 4; what++) {
                told.append(" group ").append(x.group(g, what));
            }
        }
        for (int s = 0; s < x.count(2); s++) {
            addSet(told, x, s);
        }
        for (int k = 0; k < x.count(0); k++) {
            for (int e = 0; x.size(k, e) >= 0; e++) {
                told.append(" element ").append(element(x, k, e));
            }
        }
        return told.toString();
    }

    private static void addSet(StringBuilder told, LoopEnvelopes x, int s) {
        for (int what = 0; what < 7; what++) {
            told.append(" set ").append(x.setOf(s, what));
        }
        told.append(" faults ").append(faults(x, s));
        for (int k = 0; k < x.setOf(s, 3); k++) {
            for (int what = 0; what < 6; what++) {
                told.append(" level ").append(x.level(s, k, what));
            }
        }
        for (int k = 0; k < x.setOf(s, 4); k++) {
            for (int what = 0; what < 5; what++) {
                told.append(" claim ").append(x.claim(s, k, what));
            }
        }
    }

    static String element(LoopEnvelopes x, int k, int e) {
        StringBuilder told = new StringBuilder();
        for (int i = 0; i < x.size(k, e); i++) {
            told.append((char) x.byteOf(k, e, i));
        }
        return told.toString();
    }

    /** THE TEXT: set() alone tells its bytes, so each is set and put back. */
    static String text(LoopEnvelopes x) {
        StringBuilder told = new StringBuilder();
        for (int i = 0; i < x.count(5); i++) {
            int b = x.set(i, 0);
            x.set(i, b);
            told.append((char) b);
        }
        return told.toString();
    }

    static String shown(String text) {
        return text.replace("\r", "\\r").replace("\n", "\\n");
    }

    /** An envelope of one GROUP, HC 7, with these SETS, as one text of SEGMENTS. */
    static String envelope(int sets, String segments) {
        return "OPN*000000042*:~GRP*HC*7~" + segments + "GEN*" + sets + "*7~CLS*1*42~";
    }

    /** A SET with these SEGMENTS between SET and END, which are right. */
    static String set(String segments) {
        int count = 2;
        for (int i = 0; i < segments.length(); i++) {
            count += segments.charAt(i) == '~' ? 1 : 0;
        }
        return "SET*837*1~" + segments + "END*" + count + "*1~";
    }

    /** An envelope of so many SETS, 10 at least, whose answer would have so many bytes. */
    static String answering(int sets, int bytes) {
        // 9 of AGR, 11 of AGE; of each SET AST 6, AEN 6, of SET and END 24, and 9 and the NAME of each of the three.
        int left = bytes - 20 - 63 * sets;
        StringBuilder segments = new StringBuilder();
        for (int s = 0; s < sets; s++) {
            segments.append("SET~");
            for (int i = 0; i < 3; i++) {
                int width = Math.min(12, left);
                segments.append("X".repeat(width)).append('~');
                left -= width;
            }
            segments.append("END~");
        }
        if (left != 0) {
            System.out.println("so many SETS cannot have an answer of " + bytes + " bytes");
            System.exit(1);
        }
        return envelope(sets, segments.toString());
    }

    /** The FAULTS of SET s as "place:fault" in their order. */
    static String faults(LoopEnvelopes x, int s) {
        StringBuilder told = new StringBuilder();
        for (int k = 0; k < x.setOf(s, 5); k++) {
            told.append(k == 0 ? "" : " ").append(x.fault(s, k, 0)).append(':').append(x.fault(s, k, 1));
        }
        return told.toString();
    }
}
