import java.util.List;

/** What each call is due to answer, in any state: by the second reader, a text and an answer that are plain strings. */
final class Model {
    private static final int NONE = -1, UNKNOWN = -2, OUTSIDE = -3, NOT = -4, FULL = -5;

    private final StringBuilder text = new StringBuilder();
    private Oracle read = null;
    private String answer = "";

    boolean isTaken() {
        return read != null && read.finding == 0;
    }

    /** 0 where there is none. */
    int byteAt(int i) {
        return i < 0 || i >= text.length() ? 0 : text.charAt(i);
    }

    int feed(long w, int n) {
        if (n < 1 || n > 8) {
            return OUTSIDE;
        }
        if (text.length() + n > 1200) {
            return FULL;
        }
        String bytes = String.format("%016x", w).substring(16 - 2 * n);
        for (int i = 0; i < n; i++) {
            text.append((char) Integer.parseInt(bytes.substring(2 * i, 2 * i + 2), 16));
        }
        return text.length();
    }

    int set(int i, int b) {
        if (i < 0 || i >= text.length()) {
            return UNKNOWN;
        }
        if (b < 0 || b > 255) {
            return OUTSIDE;
        }
        int was = text.charAt(i);
        text.setCharAt(i, (char) b);
        return was;
    }

    int cut(int n) {
        if (n < 0 || n > text.length()) {
            return OUTSIDE;
        }
        int went = text.length() - n;
        text.setLength(n);
        return went;
    }

    int read() {
        read = new Oracle(text.toString());
        return read.finding;
    }

    int where() {
        return read == null || read.finding == 0 ? NONE : read.place;
    }

    int count(int what) {
        if (what < 0 || what > 6) {
            return OUTSIDE;
        }
        if (what > 4) {
            return what == 5 ? text.length() : answer.length();
        }
        if (!isTaken()) {
            return NOT;
        }
        return List.of(read.segments.size(), read.groups.size(), read.sets.size(), read.right(0, read.sets.size()),
                read.number).get(what);
    }

    int group(int g, int what) {
        if (!isTaken()) {
            return NOT;
        }
        if (g < 0 || g >= read.groups.size()) {
            return UNKNOWN;
        }
        Oracle.Group group = read.groups.get(g);
        String code = group.head.get(1);
        return chosen(what, 256L * code.charAt(0) + code.charAt(1), group.number, group.firstSet, group.sets);
    }

    int setOf(int s, int what) {
        if (!isTaken()) {
            return NOT;
        }
        if (isNoSet(s)) {
            return UNKNOWN;
        }
        Oracle.SetOf set = read.sets.get(s);
        return chosen(what, set.group, set.first, set.segments.size(), set.levels.size(), set.claims.size(),
                set.faults.size(), set.amounts);
    }

    int fault(int s, int k, int what) {
        if (!isTaken()) {
            return NOT;
        }
        if (isNoSet(s) || k < 0 || k >= read.sets.get(s).faults.size()) {
            return UNKNOWN;
        }
        int[] fault = read.sets.get(s).faults.get(k);
        return chosen(what, fault[0], fault[1]);
    }

    int level(int s, int k, int what) {
        if (!isTaken()) {
            return NOT;
        }
        if (isNoSet(s) || k < 0 || k >= read.sets.get(s).levels.size()) {
            return UNKNOWN;
        }
        Oracle.Level level = read.sets.get(s).levels.get(k);
        return chosen(what, level.place, level.id, level.parent, level.kind, level.more, level.depth);
    }

    int claim(int s, int k, int what) {
        if (!isTaken()) {
            return NOT;
        }
        if (isNoSet(s) || k < 0 || k >= read.sets.get(s).claims.size()) {
            return UNKNOWN;
        }
        Oracle.Claim claim = read.sets.get(s).claims.get(k);
        return chosen(what, claim.place, claim.amount, claim.level, claim.lines, claim.sum);
    }

    int size(int k, int e) {
        if (!isTaken()) {
            return NOT;
        }
        if (k < 0 || k >= read.segments.size()) {
            return UNKNOWN;
        }
        if (e < 0) {
            return OUTSIDE;
        }
        List<String> segment = read.segments.get(k);
        return e < segment.size() ? segment.get(e).length() : NONE;
    }

    int byteOf(int k, int e, int i) {
        int size = size(k, e);
        if (size < NONE) {
            return size;
        }
        return i < 0 || i >= size ? UNKNOWN : read.segments.get(k).get(e).charAt(i);
    }

    int answer() {
        if (!isTaken()) {
            return NOT;
        }
        answer = read.answer();
        if (answer.length() > 2000) {
            answer = "";
            return FULL;
        }
        return answer.length();
    }

    int answered(int i) {
        return i < 0 || i >= answer.length() ? UNKNOWN : answer.charAt(i);
    }

    int turn() {
        if (answer.length() > 1200) {
            return FULL;
        }
        if (answer.isEmpty()) {
            return NOT;
        }
        text.setLength(0);
        text.append(answer);
        return answer.length();
    }

    private boolean isNoSet(int s) {
        return s < 0 || s >= read.sets.size();
    }

    private static int chosen(int what, long... of) {
        return what < 0 || what >= of.length ? OUTSIDE : (int) of[what];
    }
}
