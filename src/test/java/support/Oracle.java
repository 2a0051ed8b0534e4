import java.util.ArrayList;
import java.util.List;

/** A second reader of the same document, written otherwise: by texts and lists, and to be plain rather than lean. */
final class Oracle {
    static final class Group {
        List<String> head;
        int number;
        int firstSet = -1;
        int sets = 0;
    }

    static final class Level {
        int place;
        int id = -1;
        int parent = -1;
        int kind = -1;
        int more = -1;
        int depth = -1;
        boolean ill = true;
        boolean parented;
    }

    static final class Claim {
        int place;
        long amount = 0;
        int level;
        int lines = 0;
        long sum = 0;
    }

    static final class SetOf {
        int group;
        int first;
        List<List<String>> segments = new ArrayList<>();
        List<int[]> faults = new ArrayList<>();
        List<Level> levels = new ArrayList<>();
        List<Claim> claims = new ArrayList<>();
        long amounts = 0;
    }

    int finding = 0;
    int place = -1;
    int number;
    String e;
    String p;
    char s;
    List<List<String>> segments = new ArrayList<>();
    List<Group> groups = new ArrayList<>();
    List<SetOf> sets = new ArrayList<>();

    Oracle(String text) {
        if (!text.matches("(?s)OPN(.)[0-9]{9}\\1..{1}.*") || text.length() < 16 || !separators(text)) {
            tell(1, 0);
            return;
        }
        e = text.substring(3, 4);
        p = text.substring(14, 15);
        s = text.charAt(15);
        number = Integer.parseInt(text.substring(4, 13));
        split(text);
        if (finding == 0) {
            sets.forEach(this::judge);
        }
    }

    private static boolean separators(String text) {
        char a = text.charAt(3);
        char b = text.charAt(14);
        char c = text.charAt(15);
        return ("" + a + b + c).matches("[\\x00-\\x7f&&[^A-Z0-9\\n\\r .-]]{3}") && a != b && b != c && a != c;
    }

    private void tell(int what, int where) {
        finding = what;
        place = where;
    }

    private void split(String text) {
        int at = 16;
        boolean closed = false;
        while (true) {
            while (at < text.length() && "\r\n".indexOf(text.charAt(at)) >= 0) {
                at++;
            }
            if (closed) {
                if (at < text.length()) {
                    tell(2, at);
                }
                return;
            }
            int end = text.indexOf(s, at);
            if (end < 0) {
                tell(2, text.length());
                return;
            }
            List<String> segment = List.of(text.substring(at, end).split(java.util.regex.Pattern.quote(e), -1));
            if (segments.size() == 120 || segment.size() > 9 || segment.stream().anyMatch(x -> x.length() > 12)) {
                tell(3, at);
                return;
            }
            segments.add(segment);
            if (!stands(segment)) {
                tell(4, at);
                return;
            }
            closed = segment.get(0).equals("CLS");
            at = end + 1;
        }
    }

    private boolean inGroup = false;
    private boolean inSet = false;

    private boolean stands(List<String> segment) {
        String name = segment.get(0);
        if (inSet) {
            if (List.of("GRP", "GEN", "CLS", "SET").contains(name)) {
                return false;
            }
            sets.get(sets.size() - 1).segments.add(segment);
            inSet = !name.equals("END");
            return true;
        }
        if (inGroup) {
            Group group = groups.get(groups.size() - 1);
            if (name.equals("SET") && sets.size() < 24) {
                SetOf set = new SetOf();
                set.group = groups.size() - 1;
                set.first = segments.size() - 1;
                set.segments.add(segment);
                if (group.sets++ == 0) {
                    group.firstSet = sets.size();
                }
                sets.add(set);
                inSet = true;
                return true;
            }
            inGroup = false;
            return name.equals("GEN") && ends(segment, group.sets, group.number);
        }
        if (name.equals("GRP")) {
            Group group = new Group();
            group.head = segment;
            if (segment.size() != 3 || !segment.get(1).matches("[A-Z]{2}") || !segment.get(2).matches("[0-9]{1,9}")) {
                return false;
            }
            group.number = Integer.parseInt(segment.get(2));
            groups.add(group);
            inGroup = true;
            return true;
        }
        return name.equals("CLS") && ends(segment, groups.size(), number);
    }

    private static boolean ends(List<String> segment, int count, int number) {
        return segment.size() == 3 && segment.get(1).matches("[0-9]{1,6}") && segment.get(2).matches("[0-9]{1,9}")
                && Integer.parseInt(segment.get(1)) == count && Integer.parseInt(segment.get(2)) == number;
    }

    private static final String AMOUNT = "-?[0-9]{1,5}([.][0-9]{2})?";

    private boolean ill(List<String> segment) {
        String code = "[^P]{1,5}(P[^P]*)?";
        String[] forms;
        switch (segment.get(0)) {
            case "SET": forms = new String[] {"[0-9]{3}", "[0-9]{1,9}"}; break;
            case "END": forms = new String[] {"[0-9]{1,6}", "[0-9]{1,9}"}; break;
            case "LVL": forms = new String[] {"[0-9]{1,4}", "[0-9]{0,4}", "20|22|23", "0|1"}; break;
            case "NAM": forms = new String[] {"(?s).{1,12}", "(?s).{1,12}"}; break;
            case "CLM": forms = new String[] {"(?s).{1,12}", AMOUNT}; break;
            case "LIN": forms = new String[] {"[0-9]{1,3}", code, AMOUNT}; break;
            default: return false;
        }
        if (segment.size() != forms.length + 1) {
            return true;
        }
        for (int i = 0; i < forms.length; i++) {
            String element = segment.get(i + 1);
            if (forms[i].equals(code)) {
                // A letter stands for the separator of PARTS, as any sign may be one.
                element = element.replace('P', 'x').replace(p, "P");
            }
            if (!element.matches(forms[i])) {
                return true;
            }
        }
        return false;
    }

    private static long hundredths(String amount) {
        return new java.math.BigDecimal(amount).movePointRight(2).longValueExact();
    }

    private void judge(SetOf set) {
        int n = set.segments.size();
        List<Level> byPlace = new ArrayList<>();
        int linesBehindClaim = 0;
        for (int i = 0; i < n; i++) {
            List<String> segment = set.segments.get(i);
            Level level = null;
            if (segment.get(0).equals("LVL")) {
                level = new Level();
                level.place = i;
                level.ill = ill(segment);
                if (!level.ill) {
                    level.id = Integer.parseInt(segment.get(1));
                    level.parented = !segment.get(2).isEmpty();
                    level.parent = level.parented ? Integer.parseInt(segment.get(2)) : 0;
                    level.kind = Integer.parseInt(segment.get(3));
                    level.more = Integer.parseInt(segment.get(4));
                }
                set.levels.add(level);
            }
            byPlace.add(level);
        }
        int levelsAhead = 0;
        for (int i = 0; i < n; i++) {
            List<String> segment = set.segments.get(i);
            String name = segment.get(0);
            String ahead = i == 0 ? "" : set.segments.get(i - 1).get(0);
            int fault = 0;
            if (!List.of("SET", "END", "LVL", "NAM", "CLM", "LIN").contains(name)) {
                fault = 1;
            } else if (name.equals("NAM") && !List.of("LVL", "NAM").contains(ahead)
                    || name.equals("LIN") && !List.of("CLM", "LIN").contains(ahead)
                    || name.equals("CLM") && levelsAhead == 0) {
                fault = 2;
            } else if (ill(segment) || name.equals("END") && wrongEnd(set, segment)) {
                fault = 3;
            }
            if (name.equals("LVL")) {
                Level level = byPlace.get(i);
                if (fault == 0) {
                    fault = levelFault(set, level, levelsAhead);
                }
                levelsAhead++;
            } else if (name.equals("CLM")) {
                Claim claim = claimAt(set, i, levelsAhead - 1);
                boolean good = !ill(segment);
                claim.amount = good ? hundredths(segment.get(2)) : 0;
                set.amounts += claim.amount;
                if (fault == 0) {
                    Level last = set.levels.get(levelsAhead - 1);
                    boolean linked = last.depth == 2 || last.depth == 1 && last.more == 0;
                    fault = !linked ? 4 : claim.amount != claim.sum ? 6 : 0;
                }
                linesBehindClaim = 0;
            } else if (name.equals("LIN")) {
                linesBehindClaim++;
                if (fault == 0 && Integer.parseInt(segment.get(1)) != linesBehindClaim) {
                    fault = 4;
                }
            }
            if (fault > 0) {
                set.faults.add(new int[] {i + 1, fault});
            }
        }
    }

    private boolean wrongEnd(SetOf set, List<String> end) {
        if (Integer.parseInt(end.get(1)) != set.segments.size()) {
            return true;
        }
        List<String> head = set.segments.get(0);
        return !ill(head) && Integer.parseInt(end.get(2)) != Integer.parseInt(head.get(2));
    }

    private static int levelFault(SetOf set, Level level, int ahead) {
        if (level.id != ahead + 1) {
            return 4;
        }
        if (level.kind == 20) {
            if (level.parented) {
                return 4;
            }
            level.depth = 0;
        } else {
            for (Level other : set.levels.subList(0, ahead)) {
                boolean fits = other.depth >= 0 && other.kind == (level.kind == 22 ? 20 : 22);
                if (fits && level.parented && other.id == level.parent) {
                    level.depth = other.depth + 1;
                }
            }
            if (level.depth < 0) {
                return 4;
            }
        }
        boolean has = set.levels.subList(ahead + 1, set.levels.size()).stream()
                .anyMatch(other -> !other.ill && other.parented && other.parent == level.id);
        return has == (level.more == 1) ? 0 : 5;
    }

    private Claim claimAt(SetOf set, int i, int level) {
        Claim claim = new Claim();
        claim.place = i;
        claim.level = level;
        for (int k = i + 1; set.segments.get(k).get(0).equals("LIN"); k++) {
            claim.lines++;
            claim.sum += ill(set.segments.get(k)) ? 0 : hundredths(set.segments.get(k).get(3));
        }
        set.claims.add(claim);
        return claim;
    }

    int right(int from, int count) {
        int right = 0;
        for (int k = from; k < from + count; k++) {
            right += sets.get(k).faults.isEmpty() ? 1 : 0;
        }
        return right;
    }

    String answer() {
        StringBuilder told = new StringBuilder();
        for (Group group : groups) {
            add(told, "AGR", group.head.get(1), group.head.get(2));
            int right = 0;
            for (int k = group.firstSet; k < group.firstSet + group.sets; k++) {
                SetOf set = sets.get(k);
                List<String> head = set.segments.get(0);
                add(told, "AST", head.size() > 1 ? head.get(1) : "", head.size() > 2 ? head.get(2) : "");
                for (int[] fault : set.faults.subList(0, Math.min(5, set.faults.size()))) {
                    add(told, "AFT", "" + fault[0], set.segments.get(fault[0] - 1).get(0), "" + fault[1]);
                }
                add(told, "AEN", set.faults.isEmpty() ? "A" : "R");
                right += set.faults.isEmpty() ? 1 : 0;
            }
            add(told, "AGE", right == group.sets ? "A" : right == 0 ? "R" : "P", "" + group.sets, "" + right);
        }
        return told.toString();
    }

    private void add(StringBuilder told, String... elements) {
        told.append(String.join(e, elements)).append(s);
    }
}
