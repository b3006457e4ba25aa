import java.util.ArrayList;
import java.util.Arrays;
import java.util.HashSet;
import java.util.LinkedHashMap;
import java.util.List;
import java.util.Map;
import java.util.Set;

/**
 * SHORTEST for every outcome that rows of up to three can have. They are few, since many
 * rows do the same: states are gone through in order, each kept where it comes first.
 * Then for rows that do as the empty row does, but for a single one of the 256 pairs.
 */
public final class ShortestTest {
    private static final List<int[]> ALL = new ArrayList<>();

    private record State(String[] registers, int[] row) { }

    static int word(int op, int x, int y) {
        switch (op) {
            case 0: return (x + y) % 16;
            case 1: return (x + 16 - y) % 16;
            case 2: return x & y;
            case 3: return x | y;
            case 4: return x ^ y;
            case 5: return 2 * x % 16;
            default: return 15 - x;
        }
    }

    private static String outcome(int op, String one, String two) {
        char[] words = new char[256];
        for (int pair = 0; pair < 256; pair++) {
            words[pair] = (char) word(op, one.charAt(pair), two.charAt(pair));
        }
        return new String(words);
    }

    private static State first() {
        char[] a = new char[256];
        char[] b = new char[256];
        for (int pair = 0; pair < 256; pair++) {
            a[pair] = (char) (pair % 16);
            b[pair] = (char) (pair / 16);
        }
        return new State(new String[] {new String(a), new String(b), new String(new char[256])}, new int[0]);
    }

    private static Map<String, int[]> shortestRows() {
        Map<String, int[]> rows = new LinkedHashMap<>();
        Set<List<String>> seen = new HashSet<>();
        List<State> states = new ArrayList<>(List.of(first()));
        rows.put(first().registers[0], new int[0]);
        for (int length = 1; length <= 3; length++) {
            List<State> next = new ArrayList<>();
            for (State s : states) {
                for (int[] x : ALL) {
                    String[] registers = s.registers.clone();
                    registers[x[1]] = outcome(x[0], registers[x[2]], registers[x[3]]);
                    int[] row = Arrays.copyOf(s.row, length);
                    row[length - 1] = 1000 * x[0] + 100 * x[1] + 10 * x[2] + x[3];
                    rows.putIfAbsent(registers[0], row);
                    if (seen.add(List.of(registers))) {
                        next.add(new State(registers, row));
                    }
                }
            }
            states = next;
        }
        return rows;
    }

    public static void main(String[] args) {
        for (int op = 0; op < 7; op++) {
            for (int to = 0; to < 3; to++) {
                for (int one = 0; one < 3; one++) {
                    for (int two = 0; two < (op < 5 ? 3 : 1); two++) {
                        ALL.add(new int[] {op, to, one, two});
                    }
                }
            }
        }
        Map<String, int[]> rows = shortestRows();
        for (int[] row : rows.values()) {
            CodeCover c = new CodeCover();
            for (int code : row) {
                c.add(code / 1000, code / 100 % 10, code / 10 % 10, code % 10, 1);
            }
            ask(c, row);
        }
        Due.is(27, "outcomes of rows of up to three", rows.size(), 1374);
        Map<Integer, CodeCover> nearly = NearMisses.find();
        Due.is(27, "pairs that a row can leave out", nearly.size() >= 190 ? 1 : 0, 1);
        for (int pair : nearly.keySet()) {
            CodeCover c = nearly.get(pair);
            StringBuilder words = new StringBuilder(first().registers[0]);
            words.setCharAt(pair, (char) (pair % 16 ^ 8));
            Due.is(26, "a row that does nothing but at pair " + pair, outcomeOf(c).equals(words.toString()) ? 1 : 0, 1);
            ask(c, rows.get(words.toString()));
        }
        Due.finish(27);
    }

    private static String outcomeOf(CodeCover c) {
        char[] words = new char[256];
        for (int pair = 0; pair < 256; pair++) {
            words[pair] = (char) c.run(pair % 16, pair / 16, 0);
        }
        return new String(words);
    }

    /** All that shortest answers, with the row that is due, or with null if none is. */
    private static void ask(CodeCover c, int[] row) {
        String told = "SHORTEST " + Arrays.toString(row);
        for (int n = 0; n <= 3; n++) {
            boolean does = row != null && row.length <= n;
            Due.is(27, told + " of at most " + n, c.shortest(n, -1), does ? row.length : Due.NO);
            for (int i = 0; i <= n; i++) {
                int want = !does ? Due.NO : i < row.length ? row[i] : Due.NONE;
                Due.is(27, told + " of at most " + n + " at " + i, c.shortest(n, i), want);
            }
        }
    }
}
