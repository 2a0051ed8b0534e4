import java.nio.charset.StandardCharsets;

/** Counts the answers of a test that are not as due, and ends it with exit code 1 if there was one. */
final class Check {
    private int asked = 0;
    private int wrong = 0;

    void due(String call, long got, long want) {
        asked++;
        if (got != want) {
            wrong++;
            System.out.println(call + " answered " + got + ", due is " + want);
        }
    }

    void due(String call, String got, String want) {
        asked++;
        if (!got.equals(want)) {
            wrong++;
            System.out.println(call + " answered \"" + got + "\", due is \"" + want + "\"");
        }
    }

    /** What a new object tells of this text when it is read. */
    void finding(String text, int finding, int place) {
        LoopEnvelopes x = with(text);
        due("read() of " + shown(text), x.read(), finding);
        due("where() of " + shown(text), x.where(), place);
        due("count(2) of " + shown(text), x.count(2) == LoopEnvelopes.NOT ? 1 : 0, finding == 0 ? 0 : 1);
    }

    void end() {
        System.out.println(wrong == 0 ? asked + " answers are as due" : wrong + " of " + asked + " answers are wrong");
        if (wrong != 0 || asked == 0) {
            System.exit(1);
        }
    }

    static LoopEnvelopes with(String text) {
        LoopEnvelopes x = new LoopEnvelopes();
        append(x, text);
        return x;
    }

    static LoopEnvelopes taken(String text) {
        LoopEnvelopes x = with(text);
        if (x.read() != 0) {
            System.out.println("read() told " + x.read() + " at " + x.where() + " of " + shown(text));
            System.exit(1);
        }
        return x;
    }

    static void append(LoopEnvelopes x, String text) {
        byte[] bytes = text.getBytes(StandardCharsets.ISO_8859_1);
        for (int from = 0; from < bytes.length; from += 8) {
            int n = Math.min(8, bytes.length - from);
            long w = 0;
            for (int i = 0; i < n; i++) {
                w = (w << 8) | (bytes[from + i] & 255);
            }
            int told = x.feed(w, n);
            if (told < 0) {
                System.out.println("feed refused a part of " + shown(text) + " with " + told);
                System.exit(1);
            }
        }
    }

    static String answered(LoopEnvelopes x) {
        StringBuilder told = new StringBuilder();
        for (int i = 0; i < x.count(6); i++) {
            told.append((char) x.answered(i));
        }
        return told.toString();
    }

    static String shown(String text) {
        return text.replace("\r", "\\r").replace("\n", "\\n");
    }

    /** An envelope of one GROUP, HC 7, with these SETS, as one text of SEGMENTS. */
    static String envelope(int sets, String segments) {
        return "OPN*000000042*:~GRP*HC*7~" + segments + "GEN*" + sets + "*7~CLS*1*42~";
    }

    /** A SET with these SEGMENTS between SET and END, which are right. */
    static String set(String segments) {
        int count = 2;
        for (int i = 0; i < segments.length(); i++) {
            count += segments.charAt(i) == '~' ? 1 : 0;
        }
        return "SET*837*1~" + segments + "END*" + count + "*1~";
    }

    /** The FAULTS of SET s as "place:fault" in their order. */
    static String faults(LoopEnvelopes x, int s) {
        StringBuilder told = new StringBuilder();
        for (int k = 0; k < x.setOf(s, 5); k++) {
            told.append(k == 0 ? "" : " ").append(x.fault(s, k, 0)).append(':').append(x.fault(s, k, 1));
        }
        return told.toString();
    }
}
