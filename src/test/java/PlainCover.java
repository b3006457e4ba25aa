import java.util.ArrayList;
import java.util.List;

/**
 * The document once more, word by word and without any care for speed: what CodeCover
 * is held against in runs of calls that nobody has thought out. It shares no code with it.
 */
final class PlainCover {
    static final int UNKNOWN = -1, OUTSIDE = -2, STATE = -3, FULL = -4, NO = -5, NONE = -6;

    /** A TREE, of nodes or of pattern signs. */
    private static final class Part {
        char sign;
        int number;
        Part within;
        final List<Part> parts = new ArrayList<>();

        int size() {
            int sum = 1;
            for (Part p : parts) {
                sum += p.size();
            }
            return sum;
        }

        int need() {
            if (parts.isEmpty()) {
                return 1;
            }
            if (parts.size() == 1) {
                return parts.get(0).need();
            }
            int a = parts.get(0).need();
            int b = parts.get(1).need();
            return a == b ? a + 1 : Math.max(a, b);
        }
    }

    private static final class Pattern {
        int head;
        int price;
        Part text;

        boolean chain() {
            return text.sign == 'R' || text.sign == 'A';
        }
    }

    private record Cost(int sum, int by) { }

    private record Ins(int op, int to, int one, int two, int delay, int[] weight) {
        boolean uses(int r) {
            return one == r || op < 5 && two == r;
        }

        boolean touches(int r) {
            return to == r || uses(r);
        }
    }

    private final StringBuilder pad = new StringBuilder();
    private final List<Part> nodes = new ArrayList<>();
    private final List<Pattern> patterns = new ArrayList<>();
    private List<Ins> row = new ArrayList<>();
    private int kept = 1;

    // ---- 1

    int say(int sign) {
        if (sign < 33 || sign > 126) {
            return OUTSIDE;
        }
        if (pad.length() == 60) {
            return FULL;
        }
        pad.append((char) sign);
        return pad.length();
    }

    int wipe() {
        int n = pad.length();
        pad.setLength(0);
        return n;
    }

    private static int arity(char c) {
        return "+-*&".indexOf(c) >= 0 ? 2 : "~@".indexOf(c) >= 0 ? 1 : 0;
    }

    private int place;
    private int bad;

    /** Reads by descent; the first place that is wrong goes to bad. */
    private Part descend(String text, String leaves, int within) {
        if (place == text.length()) {
            bad = place;
            return null;
        }
        char c = text.charAt(place);
        int k = arity(c);
        if (k == 0 && leaves.indexOf(c) < 0 || k > 0 && within == 12) {
            bad = place;
            return null;
        }
        Part p = new Part();
        p.sign = c;
        place++;
        for (int j = 0; j < k; j++) {
            Part q = descend(text, leaves, within + 1);
            if (q == null) {
                return null;
            }
            q.within = p;
            p.parts.add(q);
        }
        return p;
    }

    private Part parse(String text, String leaves) {
        place = 0;
        bad = NONE;
        Part p = descend(text, leaves, 0);
        if (p != null && place < text.length()) {
            bad = place;
            return null;
        }
        return p;
    }

    private static final String TREE_LEAVES = "abcdefgh0123456789";
    private static final String PATTERN_LEAVES = "RAKV0123456789";

    int fault() {
        parse(pad.toString(), TREE_LEAVES);
        return bad;
    }

    int read() {
        Part p = parse(pad.toString(), TREE_LEAVES);
        if (p == null) {
            return NO;
        }
        if (p.size() > 30) {
            return FULL;
        }
        nodes.clear();
        number(p);
        pad.setLength(0);
        return nodes.size();
    }

    private void number(Part p) {
        p.number = nodes.size();
        nodes.add(p);
        for (Part q : p.parts) {
            number(q);
        }
    }

    int node(int i, int what) {
        if (i < 0 || i >= nodes.size()) {
            return UNKNOWN;
        }
        Part p = nodes.get(i);
        return switch (what) {
            case 0 -> p.sign;
            case 1 -> p.within == null ? -1 : p.within.number;
            case 2 -> p.parts.size();
            case 3 -> p.size();
            case 4 -> p.need();
            default -> OUTSIDE;
        };
    }

    // ---- 2

    int pattern(int head, int price) {
        if (head < 0 || head > 1 || price < 0 || price > 20) {
            return OUTSIDE;
        }
        if (patterns.size() == 16) {
            return FULL;
        }
        Pattern p = new Pattern();
        p.text = pad.length() > 12 ? null : parse(pad.toString(), PATTERN_LEAVES);
        if (p.text == null || p.text.sign == (head == 0 ? 'R' : 'A')) {
            return NO;
        }
        p.head = head;
        p.price = price;
        patterns.add(p);
        pad.setLength(0);
        return patterns.size() - 1;
    }

    int price(int pattern, int v) {
        if (pattern < 0 || pattern >= patterns.size()) {
            return UNKNOWN;
        }
        if (v < 0 || v > 20) {
            return OUTSIDE;
        }
        int was = patterns.get(pattern).price;
        patterns.get(pattern).price = v;
        return was;
    }

    int clear() {
        int n = patterns.size();
        patterns.clear();
        return n;
    }

    /** Which parts stand at R and A; null: it does not fit. */
    private static List<Part> stands(Part text, Part node, List<Integer> heads) {
        List<Part> all = new ArrayList<>();
        if (text.sign == 'R' || text.sign == 'A') {
            all.add(node);
            heads.add(text.sign == 'R' ? 0 : 1);
            return all;
        }
        boolean same = switch (text.sign) {
            case 'K' -> Character.isDigit(node.sign);
            case 'V' -> Character.isLowerCase(node.sign);
            default -> text.sign == node.sign;
        };
        if (!same) {
            return null;
        }
        for (int j = 0; j < text.parts.size(); j++) {
            List<Part> more = stands(text.parts.get(j), node.parts.get(j), heads);
            if (more == null) {
                return null;
            }
            all.addAll(more);
        }
        return all;
    }

    private final java.util.Map<Integer, Cost> memo = new java.util.HashMap<>();

    private Cost covered(Part node, int head, boolean chains) {
        int key = node.number * 4 + head * 2 + (chains ? 1 : 0);
        if (!memo.containsKey(key)) {
            memo.put(key, coveredAnew(node, head, chains));
        }
        return memo.get(key);
    }

    private Cost coveredAnew(Part node, int head, boolean chains) {
        Cost best = null;
        for (int p = 0; p < patterns.size(); p++) {
            Pattern pattern = patterns.get(p);
            if (pattern.head != head || pattern.chain() && !chains) {
                continue;
            }
            List<Integer> heads = new ArrayList<>();
            List<Part> at = stands(pattern.text, node, heads);
            if (at == null) {
                continue;
            }
            int sum = pattern.price;
            boolean can = true;
            for (int j = 0; j < at.size() && can; j++) {
                Cost c = covered(at.get(j), heads.get(j), !pattern.chain());
                can = c != null;
                sum += can ? c.sum : 0;
            }
            if (can && (best == null || sum < best.sum)) {
                best = new Cost(sum, p);
            }
        }
        return best;
    }

    int cover(int node, int head, int what) {
        if (node < 0 || node >= nodes.size()) {
            return UNKNOWN;
        }
        if (head < 0 || head > 1 || what < 0 || what > 1) {
            return OUTSIDE;
        }
        memo.clear();
        Cost c = covered(nodes.get(node), head, true);
        return c == null ? NONE : what == 0 ? c.sum : c.by;
    }

    private void tell(Part node, int head, boolean chains, List<int[]> code) {
        int by = covered(node, head, chains).by;
        Pattern p = patterns.get(by);
        List<Integer> heads = new ArrayList<>();
        List<Part> at = stands(p.text, node, heads);
        for (int j = 0; j < at.size(); j++) {
            tell(at.get(j), heads.get(j), !p.chain(), code);
        }
        code.add(new int[] {by, node.number});
    }

    int code(int i, int what) {
        if (what < 0 || what > 1) {
            return OUTSIDE;
        }
        if (nodes.isEmpty()) {
            return STATE;
        }
        memo.clear();
        if (covered(nodes.get(0), 0, true) == null) {
            return NO;
        }
        List<int[]> code = new ArrayList<>();
        tell(nodes.get(0), 0, true, code);
        return i == -1 ? code.size() : i < 0 || i >= code.size() ? NONE : code.get(i)[what];
    }

    // ---- 3

    private static int cappedNeed(Part p, int k, int[] stores) {
        if (p.parts.isEmpty()) {
            return 1;
        }
        int a = cappedNeed(p.parts.get(0), k, stores);
        if (p.parts.size() == 1) {
            return a;
        }
        int b = cappedNeed(p.parts.get(1), k, stores);
        if (a >= k && b >= k) {
            stores[0]++;
        }
        return Math.min(k, a == b ? a + 1 : Math.max(a, b));
    }

    int stores(int k) {
        if (k < 2 || k > 8) {
            return OUTSIDE;
        }
        if (nodes.isEmpty()) {
            return STATE;
        }
        int[] stores = new int[1];
        cappedNeed(nodes.get(0), k, stores);
        return stores[0];
    }

    // ---- 4

    int add(int op, int to, int one, int two, int wait) {
        boolean right = op >= 0 && op <= 6 && to >= 0 && to <= 5 && one >= 0 && one <= 5
                && two >= 0 && two <= 5 && wait >= 1 && wait <= 5 && (op < 5 || two == 0);
        if (!right) {
            return OUTSIDE;
        }
        if (row.size() == 12) {
            return FULL;
        }
        row.add(new Ins(op, to, one, two, wait, new int[] {1}));
        return row.size() - 1;
    }

    int drop() {
        int n = row.size();
        row.clear();
        return n;
    }

    private boolean no(int i) {
        return i < 0 || i >= row.size();
    }

    private static int[] cycles(List<Ins> row) {
        int[] cycle = new int[row.size()];
        for (int i = 0; i < cycle.length; i++) {
            cycle[i] = i == 0 ? 0 : cycle[i - 1] + 1;
            for (int r = 0; r < 6; r++) {
                if (row.get(i).uses(r)) {
                    int k = i - 1;
                    while (k >= 0 && row.get(k).to != r) {
                        k--;
                    }
                    if (k >= 0) {
                        cycle[i] = Math.max(cycle[i], cycle[k] + row.get(k).delay);
                    }
                }
            }
        }
        return cycle;
    }

    private static int endOf(List<Ins> row) {
        int[] cycle = cycles(row);
        int end = 0;
        for (int i = 0; i < cycle.length; i++) {
            end = Math.max(end, cycle[i] + row.get(i).delay);
        }
        return end;
    }

    int about(int i, int what) {
        if (no(i)) {
            return UNKNOWN;
        }
        Ins x = row.get(i);
        return switch (what) {
            case 0 -> x.op;
            case 1 -> x.to;
            case 2 -> x.one;
            case 3 -> x.two;
            case 4 -> x.delay;
            case 5 -> cycles(row)[i];
            default -> OUTSIDE;
        };
    }

    int end() {
        return endOf(row);
    }

    private boolean mustStay(int i, int k) {
        for (int r = 0; r < 6; r++) {
            boolean both = row.get(i).touches(r) && row.get(k).touches(r);
            if (both && (row.get(i).to == r || row.get(k).to == r)) {
                return true;
            }
        }
        return false;
    }

    int ahead(int i, int k) {
        return no(i) || no(k) ? UNKNOWN : i >= k ? OUTSIDE : mustStay(i, k) ? 1 : 0;
    }

    private List<Integer> bestOrder;
    private int bestEnd;

    private void permute(List<Integer> order) {
        if (order.size() == row.size()) {
            List<Ins> other = new ArrayList<>();
            for (int i : order) {
                other.add(row.get(i));
            }
            int end = endOf(other);
            if (bestOrder == null || end < bestEnd) {
                bestOrder = new ArrayList<>(order);
                bestEnd = end;
            }
            return;
        }
        for (int k = 0; k < row.size(); k++) {
            boolean may = !order.contains(k);
            for (int i = 0; i < k && may; i++) {
                may = order.contains(i) || !mustStay(i, k);
            }
            if (may) {
                order.add(k);
                permute(order);
                order.remove(order.size() - 1);
            }
        }
    }

    int best(int i) {
        if (row.size() > 10) {
            return STATE;
        }
        bestOrder = null;
        permute(new ArrayList<>());
        return i == -1 ? bestEnd : no(i) ? NONE : bestOrder.get(i);
    }

    int sort() {
        if (row.size() > 10) {
            return STATE;
        }
        bestOrder = null;
        permute(new ArrayList<>());
        List<Ins> other = new ArrayList<>();
        for (int i : bestOrder) {
            other.add(row.get(i));
        }
        row = other;
        return bestEnd;
    }

    // ---- 5

    int keep(int registers) {
        if (registers < 0 || registers > 63) {
            return OUTSIDE;
        }
        int was = kept;
        kept = registers;
        return was;
    }

    int weigh(int i, int v) {
        if (no(i)) {
            return UNKNOWN;
        }
        if (v < 1 || v > 100) {
            return OUTSIDE;
        }
        int was = row.get(i).weight[0];
        row.get(i).weight[0] = v;
        return was;
    }

    /** Whether the VALUE of i lives behind p: somebody reads it later, or it is kept. */
    private boolean livesAt(int i, int p) {
        if (p < i) {
            return false;
        }
        int r = row.get(i).to;
        for (int k = i + 1; k < row.size(); k++) {
            if (k > p && row.get(k).uses(r)) {
                return true;
            }
            if (row.get(k).to == r) {
                return false;
            }
        }
        return (kept >> r & 1) == 1;
    }

    int lives(int i) {
        if (no(i)) {
            return UNKNOWN;
        }
        int n = 0;
        for (int p = 0; p < row.size(); p++) {
            n += livesAt(i, p) ? 1 : 0;
        }
        return n;
    }

    int place(int p) {
        if (no(p)) {
            return UNKNOWN;
        }
        int bits = 0;
        for (int i = 0; i < row.size(); i++) {
            bits += livesAt(i, p) ? 1 << i : 0;
        }
        return bits;
    }

    int crowd() {
        int most = 0;
        for (int p = 0; p < row.size(); p++) {
            most = Math.max(most, Integer.bitCount(place(p)));
        }
        return most;
    }

    int spilled(int k, int what) {
        if (k < 0 || k > 12 || what < 0 || what > 1) {
            return OUTSIDE;
        }
        int[] at = new int[row.size()];
        for (int p = 0; p < at.length; p++) {
            at[p] = place(p);
        }
        int best = -1;
        int least = 0;
        for (int set = 0; set < 1 << at.length; set++) {
            int sum = 0;
            for (int i = 0; i < at.length; i++) {
                sum += (set >> i & 1) * row.get(i).weight[0];
            }
            boolean does = true;
            for (int p = 0; p < at.length && does; p++) {
                does = Integer.bitCount(at[p] & ~set) <= k;
            }
            if (does && (best < 0 || sum < least)) {
                best = set;
                least = sum;
            }
        }
        return what == 0 ? best : least;
    }

    // ---- 6

    private static int word(int op, int x, int y) {
        return switch (op) {
            case 0 -> (x + y) % 16;
            case 1 -> (x + 16 - y) % 16;
            case 2 -> x & y;
            case 3 -> x | y;
            case 4 -> x ^ y;
            case 5 -> x * 2 % 16;
            default -> 15 - x;
        };
    }

    int run(int a, int b, int r) {
        if (a < 0 || a > 15 || b < 0 || b > 15 || r < 0 || r > 5) {
            return OUTSIDE;
        }
        int[] reg = {a, b, 0, 0, 0, 0};
        for (Ins x : row) {
            reg[x.to] = word(x.op, reg[x.one], reg[x.two]);
        }
        return reg[r];
    }

    private static final List<int[]> ALL = new ArrayList<>();

    static {
        for (int op = 0; op < 7; op++) {
            for (int to = 0; to < 3; to++) {
                for (int one = 0; one < 3; one++) {
                    for (int two = 0; two < (op < 5 ? 3 : 1); two++) {
                        ALL.add(new int[] {op, to, one, two});
                    }
                }
            }
        }
    }

    private final int[] want = new int[256];

    private static int lookAt(int turn) {
        // 37 and 256 have no common part: all pairs come, but neighbours far apart.
        return turn * 37 + 91 & 255;
    }

    private boolean does(int[][] tried, int n) {
        int[] reg = new int[3];
        for (int turn = 0; turn < 256; turn++) {
            int pair = lookAt(turn);
            reg[0] = pair & 15;
            reg[1] = pair >> 4;
            reg[2] = 0;
            for (int i = 0; i < n; i++) {
                int[] x = tried[i];
                reg[x[1]] = word(x[0], reg[x[2]], reg[x[3]]);
            }
            if (reg[0] != want[pair]) {
                return false;
            }
        }
        return true;
    }

    private boolean tryAll(int[][] tried, int level, int n) {
        if (level == n) {
            return does(tried, n);
        }
        for (int[] x : ALL) {
            tried[level] = x;
            if (tryAll(tried, level + 1, n)) {
                return true;
            }
        }
        return false;
    }

    int shortest(int n, int i) {
        if (n < 0 || n > 3) {
            return OUTSIDE;
        }
        for (int pair = 0; pair < 256; pair++) {
            want[pair] = run(pair & 15, pair >> 4, 0);
        }
        for (int m = 0; m <= n; m++) {
            int[][] tried = new int[m][];
            if (tryAll(tried, 0, m)) {
                if (i == -1) {
                    return m;
                }
                return i < 0 || i >= m ? NONE : 1000 * tried[i][0] + 100 * tried[i][1] + 10 * tried[i][2] + tried[i][3];
            }
        }
        return NO;
    }

    int thin() {
        int gone = 0;
        for (int i = 0; i < row.size();) {
            if (lives(i) == 0) {
                row.remove(i);
                gone++;
                i = 0;
            } else {
                i++;
            }
        }
        return gone;
    }

    int told(int what) {
        return switch (what) {
            case 0 -> pad.length();
            case 1 -> nodes.size();
            case 2 -> patterns.size();
            case 3 -> row.size();
            case 4 -> kept;
            default -> OUTSIDE;
        };
    }
}
