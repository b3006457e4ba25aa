/**
 * Code for a small machine. The face is that of the document; each of its six
 * parts has a class of its own below. Refusals are answered here, in the order
 * of the document; the classes inside take only what has been looked at.
 */
public final class CodeCover {
    public static final int UNKNOWN = -1, OUTSIDE = -2, STATE = -3, FULL = -4, NO = -5, NONE = -6;

    private final Pad pad;
    private final Tree tree;
    private final Patterns patterns;
    private final Covering covering;
    private final Row row;
    private final Order order;
    private final Lifetimes lifetimes;
    private final Machine machine;
    private final Search search;

    public CodeCover() {
        pad = new Pad();
        tree = new Tree();
        patterns = new Patterns();
        covering = new Covering(tree, patterns);
        row = new Row();
        order = new Order(row);
        lifetimes = new Lifetimes(row);
        machine = new Machine(row);
        search = new Search(row, machine);
    }

    // ---- 1 trees

    public int say(int sign) {
        if (sign < 33 || sign > 126) {
            return OUTSIDE;
        }
        return pad.lay(sign) ? pad.count : FULL;
    }

    public int wipe() {
        int before = pad.count;
        pad.count = 0;
        return before;
    }

    public int fault() {
        return pad.faultAsTree();
    }

    public int read() {
        if (pad.faultAsTree() != NONE) {
            return NO;
        }
        if (pad.count > Tree.MOST) {
            return FULL;
        }
        tree.take(pad);
        covering.stale = true;
        pad.count = 0;
        return tree.count;
    }

    public int node(int i, int what) {
        if (!tree.has(i)) {
            return UNKNOWN;
        }
        switch (what) {
            case 0: return tree.sign[i];
            case 1: return tree.parent[i];
            case 2: return Pad.partsOf(tree.sign[i]);
            case 3: return tree.size[i];
            case 4: return tree.need[i];
            default: return OUTSIDE;
        }
    }

    // ---- 2 patterns

    public int pattern(int head, int price) {
        if (!isHead(head) || !isPrice(price)) {
            return OUTSIDE;
        }
        if (patterns.count >= Patterns.MOST) {
            return FULL;
        }
        if (!patterns.allows(pad, head)) {
            return NO;
        }
        patterns.take(pad, head, price);
        covering.stale = true;
        pad.count = 0;
        return patterns.count - 1;
    }

    public int price(int pattern, int v) {
        if (pattern < 0 || pattern >= patterns.count) {
            return UNKNOWN;
        }
        if (!isPrice(v)) {
            return OUTSIDE;
        }
        int before = patterns.price[pattern];
        patterns.price[pattern] = v;
        covering.stale = true;
        return before;
    }

    public int clear() {
        int before = patterns.count;
        patterns.count = 0;
        covering.stale = true;
        return before;
    }

    public int cover(int node, int head, int what) {
        if (!tree.has(node)) {
            return UNKNOWN;
        }
        if (!isHead(head) || !isBit(what)) {
            return OUTSIDE;
        }
        covering.refresh();
        int at = Covering.at(node, head);
        if (covering.by[at] < 0) {
            return NONE;
        }
        return what == 0 ? covering.cost[at] : covering.by[at];
    }

    public int code(int i, int what) {
        if (!isBit(what)) {
            return OUTSIDE;
        }
        if (tree.count == 0) {
            return STATE;
        }
        covering.refresh();
        if (covering.codeCount == 0) {
            return NO;
        }
        if (i == -1) {
            return covering.codeCount;
        }
        if (i < 0 || i >= covering.codeCount) {
            return NONE;
        }
        return what == 0 ? covering.codePattern[i] : covering.codeNode[i];
    }

    // ---- 3 registers

    public int stores(int k) {
        if (k < 2 || k > 8) {
            return OUTSIDE;
        }
        return tree.count == 0 ? STATE : tree.storesWith(k);
    }

    // ---- 4 the row

    public int add(int op, int to, int one, int two, int wait) {
        if (!Row.isOp(op) || !Row.isRegister(to) || !Row.isRegister(one) || !Row.isRegister(two)) {
            return OUTSIDE;
        }
        if (wait < 1 || wait > 5 || (!Row.hasSecond(op) && two != 0)) {
            return OUTSIDE;
        }
        return row.append(op, to, one, two, wait) ? row.count - 1 : FULL;
    }

    public int drop() {
        int before = row.count;
        row.empty();
        return before;
    }

    public int about(int i, int what) {
        if (!row.has(i)) {
            return UNKNOWN;
        }
        if (what < 0 || what > 5) {
            return OUTSIDE;
        }
        return what == 5 ? row.cycleOf(i) : row.cells[what][i];
    }

    public int end() {
        return row.endAsWritten();
    }

    public int ahead(int i, int k) {
        if (!row.has(i) || !row.has(k)) {
            return UNKNOWN;
        }
        if (i >= k) {
            return OUTSIDE;
        }
        return row.clash(i, k) ? 1 : 0;
    }

    public int best(int i) {
        if (row.count > Order.MOST) {
            return STATE;
        }
        order.refresh();
        if (i == -1) {
            return order.leastEnd;
        }
        return row.has(i) ? order.found[i] : NONE;
    }

    public int sort() {
        if (row.count > Order.MOST) {
            return STATE;
        }
        order.refresh();
        row.rearrange(order.found);
        return order.leastEnd;
    }

    // ---- 5 lives

    public int keep(int registers) {
        if (registers < 0 || registers > 63) {
            return OUTSIDE;
        }
        int before = lifetimes.kept;
        lifetimes.kept = registers;
        return before;
    }

    public int weigh(int i, int v) {
        if (!row.has(i)) {
            return UNKNOWN;
        }
        if (v < 1 || v > 100) {
            return OUTSIDE;
        }
        int before = row.cells[Row.WEIGHT][i];
        row.cells[Row.WEIGHT][i] = v;
        return before;
    }

    public int lives(int i) {
        return row.has(i) ? lifetimes.until(i) - i : UNKNOWN;
    }

    public int place(int i) {
        return row.has(i) ? lifetimes.livingBehind(i) : UNKNOWN;
    }

    public int crowd() {
        return lifetimes.mostAtOnePlace();
    }

    public int spilled(int k, int what) {
        if (k < 0 || k > 12 || !isBit(what)) {
            return OUTSIDE;
        }
        lifetimes.spillTo(k);
        return what == 0 ? lifetimes.lightest : lifetimes.leastWeight;
    }

    // ---- 6 words

    public int run(int a, int b, int r) {
        if (a < 0 || a > 15 || b < 0 || b > 15 || !Row.isRegister(r)) {
            return OUTSIDE;
        }
        machine.behindRow(a, b);
        return (int) (machine.register[r] & 15L);
    }

    public int shortest(int n, int i) {
        if (n < 0 || n > Search.LONGEST) {
            return OUTSIDE;
        }
        search.refresh(n);
        if (search.length < 0 || search.length > n) {
            return NO;
        }
        if (i == -1) {
            return search.length;
        }
        return i < 0 || i >= search.length ? NONE : search.codeAt(i);
    }

    public int thin() {
        int gone = 0;
        for (int round = 0; round < Row.MOST; round++) {
            int i = lifetimes.firstUnused();
            if (i < 0) {
                return gone;
            }
            row.remove(i);
            gone++;
        }
        return gone;
    }

    public int told(int what) {
        switch (what) {
            case 0: return pad.count;
            case 1: return tree.count;
            case 2: return patterns.count;
            case 3: return row.count;
            case 4: return lifetimes.kept;
            default: return OUTSIDE;
        }
    }

    private static boolean isHead(int head) {
        return head == 0 || head == 1;
    }

    private static boolean isPrice(int price) {
        return price >= 0 && price <= 20;
    }

    private static boolean isBit(int what) {
        return what == 0 || what == 1;
    }

    /** The signs that were said, and what they may be read as. */
    private static final class Pad {
        static final int MOST = 60;
        static final int DEEPEST = 12;

        final int[] sign = new int[MOST];
        /** At each depth: how many TREES must still come there. */
        private final int[] open = new int[DEEPEST + 1];
        int count;

        boolean lay(int newSign) {
            if (count >= MOST) {
                return false;
            }
            sign[count] = newSign;
            count++;
            return true;
        }

        int faultAsTree() {
            return firstFault(false);
        }

        int faultAsPattern() {
            return firstFault(true);
        }

        private int firstFault(boolean ofPattern) {
            int depth = 0;
            open[0] = 1;
            for (int i = 0; i < count; i++) {
                int parts = partsOf(sign[i]);
                boolean leaf = ofPattern ? isPatternLeaf(sign[i]) : isTreeLeaf(sign[i]);
                boolean stands = parts > 0 ? depth < DEEPEST : leaf;
                if (depth < 0 || !stands) {
                    return i;
                }
                open[depth]--;
                if (parts > 0) {
                    depth++;
                    open[depth] = parts;
                }
                depth = deepestOpen(depth);
            }
            return depth < 0 ? NONE : count;
        }

        /** -1: nothing more can come. */
        private int deepestOpen(int from) {
            for (int depth = from; depth >= 0; depth--) {
                if (open[depth] > 0) {
                    return depth;
                }
            }
            return -1;
        }

        static int partsOf(int sign) {
            switch (sign) {
                case '+': case '-': case '*': case '&': return 2;
                case '~': case '@': return 1;
                default: return 0;
            }
        }

        static boolean isNumber(int sign) {
            return sign >= '0' && sign <= '9';
        }

        static boolean isVariable(int sign) {
            return sign >= 'a' && sign <= 'h';
        }

        private static boolean isTreeLeaf(int sign) {
            return isNumber(sign) || isVariable(sign);
        }

        private static boolean isPatternLeaf(int sign) {
            return isNumber(sign) || sign == 'K' || sign == 'V' || Patterns.headOf(sign) >= 0;
        }
    }

    /** THE TREE: its NODES stand as written, so a NODE's first PART is the next one. */
    private static final class Tree {
        static final int MOST = 30;

        final int[] sign = new int[MOST];
        final int[] parent = new int[MOST];
        final int[] size = new int[MOST];
        final int[] need = new int[MOST];
        int count;

        boolean has(int i) {
            return i >= 0 && i < count;
        }

        /** The PAD has no FAULT, and no more signs than there is room for NODES. */
        void take(Pad pad) {
            count = Math.min(pad.count, MOST);
            for (int i = 0; i < count; i++) {
                sign[i] = pad.sign[i];
                parent[i] = -1;
            }
            // From behind, since a NODE's PARTS have greater numbers than itself.
            for (int i = count - 1; i >= 0; i--) {
                measure(i);
            }
        }

        private void measure(int i) {
            size[i] = 1;
            need[i] = 1;
            int first = firstPart(i);
            if (first < 0) {
                return;
            }
            parent[first] = i;
            size[i] += size[first];
            need[i] = need[first];
            int second = secondPart(i);
            if (second < 0) {
                return;
            }
            parent[second] = i;
            size[i] += size[second];
            need[i] = need[first] == need[second] ? need[first] + 1 : Math.max(need[first], need[second]);
        }

        /** -1: it has none. */
        private int firstPart(int i) {
            return Pad.partsOf(sign[i]) >= 1 && i + 1 < count ? i + 1 : -1;
        }

        /** -1: it has none. */
        private int secondPart(int i) {
            if (Pad.partsOf(sign[i]) < 2 || i + 1 >= count) {
                return -1;
            }
            int second = i + 1 + size[i + 1];
            return second < count ? second : -1;
        }

        int storesWith(int k) {
            int stores = 0;
            for (int i = 0; i < count; i++) {
                int first = firstPart(i);
                int second = secondPart(i);
                if (first >= 0 && second >= 0 && need[first] >= k && need[second] >= k) {
                    stores++;
                }
            }
            return stores;
        }
    }

    private static final class Patterns {
        static final int MOST = 16;
        static final int LONGEST = 12;

        final int[] head = new int[MOST];
        final int[] price = new int[MOST];
        final int[] length = new int[MOST];
        final int[][] text = new int[MOST][LONGEST];
        int count;

        boolean allows(Pad pad, int toHead) {
            if (pad.count > LONGEST || pad.faultAsPattern() != NONE) {
                return false;
            }
            return pad.count != 1 || headOf(pad.sign[0]) != toHead;
        }

        void take(Pad pad, int toHead, int itsPrice) {
            if (count >= MOST) {
                return;
            }
            head[count] = toHead;
            price[count] = itsPrice;
            length[count] = Math.min(pad.count, LONGEST);
            for (int i = 0; i < length[count]; i++) {
                text[count][i] = pad.sign[i];
            }
            count++;
        }

        /** The HEAD that a CHAIN comes from; -1: the PATTERN is none. */
        int chainFrom(int p) {
            return length[p] == 1 ? headOf(text[p][0]) : -1;
        }

        /** -1: the sign stands for no HEAD. */
        static int headOf(int sign) {
            if (sign == 'R') {
                return 0;
            }
            return sign == 'A' ? 1 : -1;
        }

        static boolean fits(int patternSign, int nodeSign) {
            switch (patternSign) {
                case 'K': return Pad.isNumber(nodeSign);
                case 'V': return Pad.isVariable(nodeSign);
                default: return patternSign == nodeSign;
            }
        }
    }

    /** What each NODE costs to each HEAD, and the CODE of the whole TREE. */
    private static final class Covering {
        private static final int FAR = 1_000_000;
        private static final int CELLS = 2 * Tree.MOST;

        private final Tree tree;
        private final Patterns patterns;
        /** By PATTERNS that are no CHAINS alone: a CHAIN starts from these. */
        private final int[] plainCost = new int[CELLS];
        private final int[] plainBy = new int[CELLS];
        final int[] cost = new int[CELLS];
        final int[] by = new int[CELLS];
        // A NODE gives one PATTERN at most and one CHAIN on it, so twice the NODES are enough.
        final int[] codePattern = new int[CELLS];
        final int[] codeNode = new int[CELLS];
        int codeCount;
        boolean stale;

        Covering(Tree tree, Patterns patterns) {
            this.tree = tree;
            this.patterns = patterns;
        }

        static int at(int node, int head) {
            return 2 * node + head;
        }

        void refresh() {
            if (!stale) {
                return;
            }
            stale = false;
            for (int node = tree.count - 1; node >= 0; node--) {
                coverPlainly(node);
                coverWithChains(node);
            }
            codeCount = 0;
            if (tree.count > 0) {
                tell(0, 0, 0);
            }
        }

        private void coverPlainly(int node) {
            for (int head = 0; head < 2; head++) {
                plainCost[at(node, head)] = FAR;
                plainBy[at(node, head)] = -1;
            }
            for (int p = 0; p < patterns.count; p++) {
                int sum = patterns.chainFrom(p) < 0 ? costOf(p, node) : FAR;
                int at = at(node, patterns.head[p]);
                if (sum < plainCost[at]) {
                    plainCost[at] = sum;
                    plainBy[at] = p;
                }
            }
        }

        private void coverWithChains(int node) {
            for (int head = 0; head < 2; head++) {
                cost[at(node, head)] = plainCost[at(node, head)];
                by[at(node, head)] = plainBy[at(node, head)];
            }
            for (int p = 0; p < patterns.count; p++) {
                int from = patterns.chainFrom(p);
                if (from < 0 || plainBy[at(node, from)] < 0) {
                    continue;
                }
                int sum = plainCost[at(node, from)] + patterns.price[p];
                int at = at(node, patterns.head[p]);
                if (sum < cost[at] || (sum == cost[at] && p < by[at])) {
                    cost[at] = sum;
                    by[at] = p;
                }
            }
        }

        /** FAR: the PATTERN does not fit, or what stands at its R and A can not be COVERED. */
        private int costOf(int p, int node) {
            int sum = patterns.price[p];
            int place = node;
            for (int i = 0; i < patterns.length[p]; i++) {
                if (place >= tree.count) {
                    return FAR;
                }
                int sign = patterns.text[p][i];
                int head = Patterns.headOf(sign);
                if (head >= 0) {
                    sum = Math.min(FAR, sum + cost[at(place, head)]);
                    place += tree.size[place];
                } else if (Patterns.fits(sign, tree.sign[place])) {
                    place++;
                } else {
                    return FAR;
                }
            }
            return sum;
        }

        private void tell(int node, int head, int depth) {
            int p = by[at(node, head)];
            if (p < 0) {
                return;
            }
            int from = patterns.chainFrom(p);
            if (from < 0) {
                tellPlain(node, head, depth);
            } else {
                tellPlain(node, from, depth);
                tellOne(p, node);
            }
        }

        private void tellPlain(int node, int head, int depth) {
            int p = plainBy[at(node, head)];
            if (p < 0 || depth > Pad.DEEPEST) {
                return;
            }
            int place = node;
            for (int i = 0; i < patterns.length[p] && place < tree.count; i++) {
                int partHead = Patterns.headOf(patterns.text[p][i]);
                if (partHead >= 0) {
                    tell(place, partHead, depth + 1);
                    place += tree.size[place];
                } else {
                    place++;
                }
            }
            tellOne(p, node);
        }

        private void tellOne(int p, int node) {
            if (codeCount < CELLS) {
                codePattern[codeCount] = p;
                codeNode[codeCount] = node;
                codeCount++;
            }
        }
    }

    /** THE ROW as a table: a line of cells for each thing that is known of INSTRUCTIONS. */
    private static final class Row {
        static final int MOST = 12;
        static final int REGISTERS = 6;
        static final int OP = 0, TO = 1, ONE = 2, TWO = 3, WAIT = 4, WEIGHT = 5;
        private static final int LINES = 6;

        final int[][] cells = new int[LINES][MOST];
        private final int[] cycle = new int[MOST];
        private final int[] spare = new int[MOST];
        int count;
        /** Tells those who keep what they found whether it is still of this row. */
        int version = 1;

        static boolean isOp(int op) {
            return op >= 0 && op <= 6;
        }

        static boolean isRegister(int r) {
            return r >= 0 && r < REGISTERS;
        }

        static boolean hasSecond(int op) {
            return op < 5;
        }

        boolean has(int i) {
            return i >= 0 && i < count;
        }

        boolean append(int op, int to, int one, int two, int wait) {
            if (count >= MOST) {
                return false;
            }
            cells[OP][count] = op;
            cells[TO][count] = to;
            cells[ONE][count] = one;
            cells[TWO][count] = two;
            cells[WAIT][count] = wait;
            cells[WEIGHT][count] = 1;
            count++;
            version++;
            return true;
        }

        void empty() {
            count = 0;
            version++;
        }

        void remove(int i) {
            if (!has(i)) {
                return;
            }
            count--;
            for (int line = 0; line < LINES; line++) {
                for (int k = i; k < count; k++) {
                    cells[line][k] = cells[line][k + 1];
                }
            }
            version++;
        }

        /** The i-th is then the one that had the number newOrder[i]. */
        void rearrange(int[] newOrder) {
            for (int line = 0; line < LINES; line++) {
                for (int i = 0; i < count; i++) {
                    spare[i] = cells[line][i];
                }
                for (int i = 0; i < count && i < newOrder.length; i++) {
                    if (has(newOrder[i])) {
                        cells[line][i] = spare[newOrder[i]];
                    }
                }
            }
            version++;
        }

        boolean uses(int i, int register) {
            return cells[ONE][i] == register || (hasSecond(cells[OP][i]) && cells[TWO][i] == register);
        }

        boolean clash(int i, int k) {
            int one = cells[TO][i];
            int two = cells[TO][k];
            return one == two || uses(k, one) || uses(i, two);
        }

        /** The INSTRUCTION ahead of i that set the register for it; -1: none did. */
        private int setterAhead(int i, int register) {
            for (int k = i - 1; k >= 0; k--) {
                if (cells[TO][k] == register) {
                    return k;
                }
            }
            return -1;
        }

        int firstSetter(int i) {
            return setterAhead(i, cells[ONE][i]);
        }

        int secondSetter(int i) {
            return hasSecond(cells[OP][i]) ? setterAhead(i, cells[TWO][i]) : -1;
        }

        int cycleOf(int i) {
            findCycles();
            return cycle[i];
        }

        int endAsWritten() {
            findCycles();
            int end = 0;
            for (int i = 0; i < count; i++) {
                end = Math.max(end, cycle[i] + cells[WAIT][i]);
            }
            return end;
        }

        private void findCycles() {
            int next = 0;
            for (int i = 0; i < count; i++) {
                next = Math.max(next, Math.max(readyAt(firstSetter(i)), readyAt(secondSetter(i))));
                cycle[i] = next;
                next++;
            }
        }

        private int readyAt(int setter) {
            return setter < 0 ? 0 : cycle[setter] + cells[WAIT][setter];
        }
    }

    /**
     * THE BEST ORDER. Orders are tried from the first by numbers on, and a later one is
     * taken only if its END is less: so what can not get below the least END is left out.
     */
    private static final class Order {
        static final int MOST = 10;
        private static final int FAR = 1_000_000;

        private final Row row;
        /** As bits: which must stay ahead of each. */
        private final int[] needed = new int[MOST];
        // In every order that is allowed the same ones set an INSTRUCTION's sources.
        private final int[] firstSetter = new int[MOST];
        private final int[] secondSetter = new int[MOST];
        /** How long it takes from the start of each, at least, until all is ended. */
        private final int[] tail = new int[MOST];
        private final int[] byTail = new int[MOST];
        private final int[] start = new int[MOST];
        private final int[] chosen = new int[MOST];
        final int[] found = new int[MOST];
        int leastEnd;
        private int count;
        private int version;

        Order(Row row) {
            this.row = row;
        }

        void refresh() {
            if (version == row.version || row.count > MOST) {
                return;
            }
            version = row.version;
            count = row.count;
            for (int i = count - 1; i >= 0; i--) {
                prepare(i);
            }
            for (int i = 0; i < count; i++) {
                rankByTail(i);
            }
            leastEnd = FAR;
            extend(0, 0, -1);
        }

        private void prepare(int i) {
            firstSetter[i] = row.firstSetter(i);
            secondSetter[i] = row.secondSetter(i);
            needed[i] = 0;
            for (int k = 0; k < i; k++) {
                needed[i] |= row.clash(k, i) ? 1 << k : 0;
            }
            int wait = row.cells[Row.WAIT][i];
            tail[i] = wait;
            for (int k = i + 1; k < count; k++) {
                if ((needed[k] >> i & 1) != 0) {
                    boolean waits = firstSetter[k] == i || secondSetter[k] == i;
                    tail[i] = Math.max(tail[i], tail[k] + (waits ? wait : 1));
                }
            }
        }

        private void rankByTail(int i) {
            int place = i;
            for (int k = i; k > 0 && tail[byTail[k - 1]] < tail[i]; k--) {
                byTail[k] = byTail[k - 1];
                place = k - 1;
            }
            byTail[place] = i;
        }

        private void extend(int placed, int done, int last) {
            if (placed >= count) {
                leastEnd = endAtLeast(done, last);
                System.arraycopy(chosen, 0, found, 0, count);
                return;
            }
            for (int k = 0; k < count; k++) {
                if ((done >> k & 1) != 0 || (needed[k] & ~done) != 0) {
                    continue;
                }
                start[k] = Math.max(last + 1, readyFor(k, done));
                chosen[placed] = k;
                int then = done | 1 << k;
                if (endAtLeast(then, start[k]) < leastEnd) {
                    extend(placed + 1, then, start[k]);
                }
            }
        }

        private int readyFor(int k, int done) {
            return Math.max(readyAt(firstSetter[k], done), readyAt(secondSetter[k], done));
        }

        private int readyAt(int setter, int done) {
            if (setter < 0 || (done >> setter & 1) == 0) {
                return 0;
            }
            return start[setter] + row.cells[Row.WAIT][setter];
        }

        /** END of those that are done; of the others only one can start in each CYCLE. */
        private int endAtLeast(int done, int last) {
            int end = 0;
            int next = last;
            for (int j = 0; j < count; j++) {
                int k = byTail[j];
                if ((done >> k & 1) != 0) {
                    end = Math.max(end, start[k] + row.cells[Row.WAIT][k]);
                } else {
                    next++;
                    end = Math.max(end, Math.max(next, readyFor(k, done)) + tail[k]);
                }
            }
            return end;
        }
    }

    /** Where VALUES live, and which are not kept in registers when these are few. */
    private static final class Lifetimes {
        private static final int FAR = 1_000_000;

        private final Row row;
        private final int[] until = new int[Row.MOST];
        private final int[] living = new int[Row.MOST];
        int kept = 1;
        int lightest;
        int leastWeight;

        Lifetimes(Row row) {
            this.row = row;
        }

        /** The VALUE lives at PLACES from its own number up to below this. */
        int until(int i) {
            int register = row.cells[Row.TO][i];
            int last = i;
            for (int k = i + 1; k < row.count; k++) {
                if (row.uses(k, register)) {
                    last = k;
                }
                if (row.cells[Row.TO][k] == register) {
                    return last;
                }
            }
            return (kept >> register & 1) != 0 ? row.count : last;
        }

        int livingBehind(int place) {
            int bits = 0;
            for (int i = 0; i <= place && i < row.count; i++) {
                bits |= until(i) > place ? 1 << i : 0;
            }
            return bits;
        }

        int mostAtOnePlace() {
            int most = 0;
            for (int place = 0; place < row.count; place++) {
                most = Math.max(most, Integer.bitCount(livingBehind(place)));
            }
            return most;
        }

        /** -1: every VALUE lives somewhere. */
        int firstUnused() {
            for (int i = 0; i < row.count; i++) {
                if (until(i) == i) {
                    return i;
                }
            }
            return -1;
        }

        void spillTo(int k) {
            for (int i = 0; i < row.count; i++) {
                until[i] = until(i);
                living[i] = 0;
            }
            lightest = 0;
            leastWeight = FAR;
            choose(row.count - 1, k, 0, 0);
        }

        /** The last VALUES first, and kept ones first: so sets come from the least as bits on. */
        private void choose(int i, int k, int spilled, int weight) {
            if (weight >= leastWeight) {
                return;
            }
            if (i < 0) {
                lightest = spilled;
                leastWeight = weight;
                return;
            }
            if (hasRoom(i, k)) {
                count(i, 1);
                choose(i - 1, k, spilled, weight);
                count(i, -1);
            }
            if (until[i] > i) {
                choose(i - 1, k, spilled | 1 << i, weight + row.cells[Row.WEIGHT][i]);
            }
        }

        private boolean hasRoom(int i, int k) {
            for (int place = i; place < until[i]; place++) {
                if (living[place] >= k) {
                    return false;
                }
            }
            return true;
        }

        private void count(int i, int change) {
            for (int place = i; place < until[i]; place++) {
                living[place] += change;
            }
        }
    }

    /** The registers, sixteen WORDS side by side in each, so that sixteen runs go at once. */
    private static final class Machine {
        private static final long TOPS = 0x8888888888888888L;
        private static final long RESTS = 0x7777777777777777L;

        private final Row row;
        final long[] register = new long[Row.REGISTERS];

        Machine(Row row) {
            this.row = row;
        }

        void behindRow(long a, long b) {
            for (int r = 0; r < Row.REGISTERS; r++) {
                register[r] = 0;
            }
            register[0] = a;
            register[1] = b;
            for (int i = 0; i < row.count; i++) {
                long one = register[row.cells[Row.ONE][i]];
                long two = register[row.cells[Row.TWO][i]];
                register[row.cells[Row.TO][i]] = result(row.cells[Row.OP][i], one, two);
            }
        }

        /** The top bits are set apart, lest what is carried goes over into the next WORD. */
        static long result(int op, long one, long two) {
            switch (op) {
                case 0: return ((one & RESTS) + (two & RESTS)) ^ ((one ^ two) & TOPS);
                case 1: return ((one | TOPS) - (two & RESTS)) ^ ((one ^ ~two) & TOPS);
                case 2: return one & two;
                case 3: return one | two;
                case 4: return one ^ two;
                case 5: return (one & RESTS) << 1;
                default: return ~one;
            }
        }
    }

    /**
     * What an INSTRUCTION of SHORTEST can do with its sources, in the order of the document.
     * Left out is what one further ahead in that order does as well.
     */
    private static final class Moves {
        static final int OPS = 7;
        static final int REGISTERS = 3;
        private static final int MOST = 24;

        final int[] one = new int[MOST];
        final int[] two = new int[MOST];
        /** Both sources, as bits. */
        final int[] reads = new int[MOST];
        final boolean[] atFirst = new boolean[MOST];
        /** Where those of each OP begin; they end where those of the next one do. */
        final int[] begin = new int[OPS + 1];
        private int count;

        Moves() {
            for (int op = 0; op < OPS; op++) {
                begin[op] = count;
                listSources(op);
            }
            begin[OPS] = count;
        }

        private void listSources(int op) {
            int seconds = Row.hasSecond(op) ? REGISTERS : 1;
            for (int x = 0; x < REGISTERS; x++) {
                for (int y = 0; y < seconds; y++) {
                    if (isNew(op, x, y) && count < MOST) {
                        one[count] = x;
                        two[count] = y;
                        reads[count] = 1 << x | (Row.hasSecond(op) ? 1 << y : 0);
                        atFirst[count] = isNewAtFirst(op, x, y);
                        count++;
                    }
                }
            }
        }

        /**
         * Copies of x (x and x, x or x) and 0 (x - x, x xor x) are no good but at first, where +
         * makes them: what comes last can read x itself, and register 2 is 0 if the first spares it.
         */
        private static boolean isNew(int op, int x, int y) {
            switch (op) {
                case 0: return x <= y;
                case 1: return x != y;
                case 2: case 3: case 4: return x < y;
                case 5: return false; // twice x is x + x
                default: return true;
            }
        }

        /** Register 2 is 0 as yet: x + 2 copies x, 2 + 2 is 0, and nothing else needs to. */
        private static boolean isNewAtFirst(int op, int x, int y) {
            switch (op) {
                case 1: return y != 2;
                case 2: case 3: case 4: return x == 0 && y == 1;
                default: return true;
            }
        }
    }

    /**
     * SHORTEST. Rows are tried by their length, then in their order, on sixteen pairs at
     * once; one that does well there is tried on all 256.
     */
    private static final class Search {
        static final int LONGEST = 3;
        private static final int BLOCKS = 16;
        private static final long ALL_A = 0xFEDCBA9876543210L;
        // Far from all that a short row makes of a, lest wrong rows do well in the first block.
        private static final long MIXED_B = 0x3C91F6A0D72E5B84L;
        private static final long EACH = 0x1111111111111111L;

        private final Row row;
        private final Machine machine;
        private final Moves moves = new Moves();
        /** Register 0 behind THE ROW, sixteen pairs in each block. */
        private final long[] due = new long[BLOCKS];
        /** In the first block: the registers ahead of each INSTRUCTION that is tried. */
        private final long[][] before = new long[LONGEST][Moves.REGISTERS];
        private final long[] trial = new long[Moves.REGISTERS];
        private final int[] op = new int[LONGEST];
        private final int[] to = new int[LONGEST];
        private final int[] one = new int[LONGEST];
        private final int[] two = new int[LONGEST];
        /** -1: none has been found. */
        int length = -1;
        private int tried = -1;
        private int version;

        Search(Row row, Machine machine) {
            this.row = row;
            this.machine = machine;
        }

        int codeAt(int i) {
            return 1000 * op[i] + 100 * to[i] + 10 * one[i] + two[i];
        }

        /** Rows of at most n are tried, if they have not been since THE ROW changed. */
        void refresh(int n) {
            if (version != row.version) {
                version = row.version;
                length = -1;
                tried = -1;
                begin(before[0], 0);
                for (int block = 0; block < BLOCKS; block++) {
                    machine.behindRow(ALL_A, wordsOfB(block));
                    due[block] = machine.register[0];
                }
            }
            while (length < 0 && tried < n && tried < LONGEST) {
                tried++;
                if (tried == 0 ? doesAll(0) : find(0, tried, 0)) {
                    length = tried;
                }
            }
        }

        /** Over all blocks each word of a meets each word of b once. */
        private static long wordsOfB(int block) {
            return MIXED_B ^ block * EACH;
        }

        private static void begin(long[] registers, int block) {
            registers[0] = ALL_A;
            registers[1] = wordsOfB(block);
            registers[2] = 0;
        }

        private boolean find(int level, int n, int unread) {
            int last = n - 1;
            if (level > last) {
                return false;
            }
            // Without a last one that sets register 0 the row would do as well.
            int targets = level == last ? 1 : Moves.REGISTERS;
            for (int anOp = 0; anOp < Moves.OPS; anOp++) {
                for (int target = 0; target < targets; target++) {
                    op[level] = anOp;
                    to[level] = target;
                    boolean does = level == last ? endsWith(anOp, n, unread) : goesOn(level, n, unread);
                    if (does) {
                        return true;
                    }
                }
            }
            return false;
        }

        /** A row that sets what nobody reads would do as well without, and so is not SHORTEST. */
        private boolean goesOn(int level, int n, int unread) {
            int target = to[level];
            int end = moves.begin[op[level] + 1];
            for (int m = moves.begin[op[level]]; m < end; m++) {
                int left = unread & ~moves.reads[m];
                if ((level == 0 && !moves.atFirst[m]) || (left >> target & 1) != 0) {
                    continue;
                }
                one[level] = moves.one[m];
                two[level] = moves.two[m];
                System.arraycopy(before[level], 0, before[level + 1], 0, Moves.REGISTERS);
                before[level + 1][target] =
                        Machine.result(op[level], before[level][one[level]], before[level][two[level]]);
                if (find(level + 1, n, left | 1 << target)) {
                    return true;
                }
            }
            return false;
        }

        private boolean endsWith(int lastOp, int n, int unread) {
            int level = n - 1;
            long[] registers = before[level];
            int end = moves.begin[lastOp + 1];
            for (int m = moves.begin[lastOp]; m < end; m++) {
                if ((unread & ~moves.reads[m]) != 0 || (level == 0 && !moves.atFirst[m])) {
                    continue;
                }
                if (Machine.result(lastOp, registers[moves.one[m]], registers[moves.two[m]]) == due[0]) {
                    one[level] = moves.one[m];
                    two[level] = moves.two[m];
                    if (doesAll(n)) {
                        return true;
                    }
                }
            }
            return false;
        }

        private boolean doesAll(int n) {
            for (int block = 0; block < BLOCKS; block++) {
                begin(trial, block);
                for (int i = 0; i < n; i++) {
                    trial[to[i]] = Machine.result(op[i], trial[one[i]], trial[two[i]]);
                }
                if (trial[0] != due[block]) {
                    return false;
                }
            }
            return true;
        }
    }
}
