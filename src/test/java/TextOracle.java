import java.util.ArrayList;
import java.util.HashMap;
import java.util.LinkedHashSet;
import java.util.List;
import java.util.Map;
import java.util.Set;

/**
 * Faults once more, apart from the class: a LAW by Earley's way over the document's grammar, which asks of
 * each byte whether any text can go on with it; a RIDE clause by clause over tokens.
 */
final class TextOracle {
    private static final Map<String, List<String[]>> GRAMMAR = new HashMap<>();

    private TextOracle() {
    }

    private static void form(String left, String... right) {
        GRAMMAR.computeIfAbsent(left, k -> new ArrayList<>()).add(right);
    }

    static {
        // A sign stands as itself; every one may have blanks ahead of it (B), a number's digits but the first not.
        form("B");
        form("B", "B", " ");
        form("LAW", "CLAUSES", "B");
        form("CLAUSES", "CLAUSE");
        form("CLAUSES", "CLAUSES", "B", ";", "CLAUSE");
        form("CLAUSE", "B", "y", "B", ":", "SUM0");
        form("CLAUSE", "B", "y", "B", ":", "CONDITION0", "B", "?", "SUM0");
        for (int depth = 0; depth <= 6; depth++) {
            String in = "" + depth;
            form("CONDITION" + in, "TRUTH" + in);
            form("CONDITION" + in, "CONDITION" + in, "B", "|", "TRUTH" + in);
            form("TRUTH" + in, "UNIT" + in);
            form("TRUTH" + in, "TRUTH" + in, "B", "&", "UNIT" + in);
            for (String sign : new String[] {"=", "<", ">"}) {
                form("UNIT" + in, "SUM" + in, "B", sign, "SUM" + in);
            }
            form("SUM" + in, "TERM" + in);
            form("SUM" + in, "SUM" + in, "B", "+", "TERM" + in);
            form("SUM" + in, "SUM" + in, "B", "-", "TERM" + in);
            form("TERM" + in, "ATOM" + in);
            form("TERM" + in, "TERM" + in, "B", "*", "ATOM" + in);
            form("TERM" + in, "TERM" + in, "B", "/", "ATOM" + in);
            form("ATOM" + in, "B", "DIGIT");
            form("ATOM" + in, "B", "DIGIT", "DIGIT");
            form("ATOM" + in, "B", "DIGIT", "DIGIT", "DIGIT");
            form("ATOM" + in, "B", "DIGIT", "DIGIT", "DIGIT", "DIGIT");
            form("ATOM" + in, "B", "LETTER");
            if (depth < 6) {
                form("UNIT" + in, "B", "!", "UNIT" + (depth + 1));
                form("UNIT" + in, "B", "(", "CONDITION" + (depth + 1), "B", ")");
                form("ATOM" + in, "B", "[", "SUM" + (depth + 1), "B", "]");
            }
        }
        for (char digit = '0'; digit <= '9'; digit++) {
            form("DIGIT", "" + digit);
        }
        for (char letter : "vdpmrn".toCharArray()) {
            form("LETTER", "" + letter);
        }
    }

    private record Item(String left, String[] right, int dot, int from) {
        String key() {
            return left + System.identityHashCode(right) + "." + dot + "@" + from;
        }

        String next() {
            return dot < right.length ? right[dot] : null;
        }

        Item moved() {
            return new Item(left, right, dot + 1, from);
        }
    }

    private static final class Items {
        final List<Item> list = new ArrayList<>();
        final Set<String> keys = new LinkedHashSet<>();

        void add(Item item) {
            if (keys.add(item.key())) {
                list.add(item);
            }
        }
    }

    static int lawFault(String text) {
        List<Items> sets = new ArrayList<>();
        sets.add(new Items());
        for (String[] right : GRAMMAR.get("LAW")) {
            sets.get(0).add(new Item("LAW", right, 0, 0));
        }
        for (int at = 0; at <= text.length(); at++) {
            Items now = sets.get(at);
            Items then = new Items();
            boolean whole = false;
            for (int k = 0; k < now.list.size(); k++) {
                Item item = now.list.get(k);
                String next = item.next();
                if (next == null) {
                    whole |= item.left().equals("LAW");
                    Items began = sets.get(item.from());
                    for (int j = 0; j < began.list.size(); j++) {
                        if (item.left().equals(began.list.get(j).next())) {
                            now.add(began.list.get(j).moved());
                        }
                    }
                } else if (GRAMMAR.containsKey(next)) {
                    for (String[] right : GRAMMAR.get(next)) {
                        now.add(new Item(next, right, 0, at));
                    }
                    // Blanks may be none.
                    if (next.equals("B")) {
                        now.add(item.moved());
                    }
                } else if (at < text.length() && next.charAt(0) == text.charAt(at)) {
                    then.add(item.moved());
                }
            }
            if (at == text.length()) {
                return whole ? -1 : at;
            }
            if (then.list.isEmpty()) {
                return at;
            }
            sets.add(then);
        }
        return text.length();
    }

    private static final String[] LETTERS = {"lpwmc", "xver", "xd"};
    private static final int[][] LEAST = {{5, 1, 1, 0, 0}, {0, 0, 0, 0}, {0, 0}};
    private static final int[][] MOST = {{30, 5, 20, 9, 99}, {30, 9, 9, 9}, {30, 9}};
    private static final int[][] USUAL = {{20, 2, 8, 2, 30}, {5, 5, 3, 1}, {10, 3}};

    static int rideFault(String text) {
        List<List<int[]>> rows = new ArrayList<>();
        return rideFault(text, rows);
    }

    /** A state machine: 0 wants a clause's letter, 1 an item's letter or ; or the end, 2 a number. */
    private static int rideFault(String text, List<List<int[]>> rows) {
        for (int k = 0; k < 3; k++) {
            rows.add(new ArrayList<>());
        }
        int state = 0;
        int kind = 0;
        int item = 0;
        String used = "";
        for (int at = 0; at < text.length(); at++) {
            char sign = text.charAt(at);
            if (sign == ' ') {
                continue;
            }
            if (state == 0) {
                kind = "sdf".indexOf(sign);
                if (kind < 0 || rows.get(kind).size() == new int[] {1, 6, 5}[kind]) {
                    return at;
                }
                rows.get(kind).add(USUAL[kind].clone());
                used = "";
                state = 1;
            } else if (state == 1 && sign == ';') {
                state = 0;
            } else if (state == 1) {
                item = LETTERS[kind].indexOf(sign);
                if (item < 0 || used.indexOf(sign) >= 0) {
                    return at;
                }
                used += sign;
                state = 2;
            } else {
                int to = at;
                while (to < text.length() && text.charAt(to) >= '0' && text.charAt(to) <= '9') {
                    to++;
                }
                if (to == at || to - at > 2) {
                    return to == at ? at : at + 2;
                }
                int number = Integer.parseInt(text.substring(at, to));
                if (number < LEAST[kind][item] || number > MOST[kind][item]) {
                    return to - 1;
                }
                rows.get(kind).get(rows.get(kind).size() - 1)[item] = number;
                at = to - 1;
                state = 1;
            }
        }
        return state == 1 && fitsTogether(rows) ? -1 : text.length();
    }

    private static boolean fitsTogether(List<List<int[]>> rows) {
        int length = rows.get(0).isEmpty() ? 20 : rows.get(0).get(0)[0];
        boolean[] ford = new boolean[31];
        for (int[] f : rows.get(2)) {
            if (f[0] > length || ford[f[0]]) {
                return false;
            }
            ford[f[0]] = true;
        }
        for (int[] d : rows.get(1)) {
            if (d[0] > length) {
                return false;
            }
        }
        return !rows.get(1).isEmpty();
    }

    static PlainModel.World rideOf(String text) {
        List<List<int[]>> rows = new ArrayList<>();
        if (rideFault(text, rows) != -1) {
            throw new IllegalArgumentException("a fault");
        }
        int[] rules = rows.get(0).isEmpty() ? USUAL[0] : rows.get(0).get(0);
        PlainModel.World w = new PlainModel.World();
        w.length = rules[0];
        w.pace = rules[1];
        w.words = rules[2];
        w.mud = rules[3];
        w.coins = rules[4];
        w.stand = column(rows.get(1), 0);
        w.voice = column(rows.get(1), 1);
        w.deeds = column(rows.get(1), 2);
        w.rank = column(rows.get(1), 3);
        w.glory = new int[w.stand.length];
        w.fordAt = column(rows.get(2), 0);
        w.depth = column(rows.get(2), 1);
        return w;
    }

    private static int[] column(List<int[]> rows, int k) {
        int[] out = new int[rows.size()];
        for (int i = 0; i < out.length; i++) {
            out[i] = rows.get(i)[k];
        }
        return out;
    }
}
