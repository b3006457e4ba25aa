import java.util.Random;

/** Runs of calls by chance (the same ones each time), held against the plain model. */
public final class RandomRunsTest {
    private static final String LEAVES = "abcdefgh0123456789";
    private static final String PATTERN_LEAVES = "RRRRAAAKKVV0123456789";

    public static void main(String[] args) {
        for (int seed = 0; seed < 400; seed++) {
            trees(new Random(seed));
            covers(new Random(seed));
            rows(new Random(seed));
        }
        for (int seed = 0; seed < 60; seed++) {
            anything(new Random(seed));
        }
        for (int seed = 0; seed < 40; seed++) {
            extremes(new Random(seed));
        }
        for (int seed = 0; seed < 1500; seed++) {
            orders(new Random(seed), seed % 10 == 0 ? 9 + seed / 10 % 2 : 3 + seed % 6);
        }
        for (int seed = 0; seed < 60; seed++) {
            words(new Random(seed));
            ordersInTurn(new Random(seed));
        }
        Twins.finish("random runs");
    }

    /** Of about that many signs, and no deeper. */
    private static String tree(Random x, String leaves, int size, int deepest) {
        if (size <= 1 || deepest == 0) {
            return "" + leaves.charAt(x.nextInt(leaves.length()));
        }
        if (x.nextInt(4) == 0) {
            return "~@".charAt(x.nextInt(2)) + tree(x, leaves, size - 1, deepest - 1);
        }
        int first = 1 + x.nextInt(Math.max(1, size - 2));
        char sign = "+-*&".charAt(x.nextInt(4));
        return sign + tree(x, leaves, first, deepest - 1) + tree(x, leaves, size - 1 - first, deepest - 1);
    }

    private static String spoilt(Random x, String text) {
        if (x.nextInt(3) != 0) {
            return text;
        }
        int at = x.nextInt(text.length());
        char other = (char) (33 + x.nextInt(94));
        switch (x.nextInt(4)) {
            case 0: return text.substring(0, at) + other + text.substring(at + 1);
            case 1: return text.substring(0, at) + text.substring(at + 1);
            case 2: return text.substring(0, at) + other + text.substring(at);
            default: return text + "+a";
        }
    }

    private static void trees(Random x) {
        Twins t = new Twins();
        for (int round = 0; round < 6; round++) {
            t.call("fault");
            String text = spoilt(x, tree(x, LEAVES, 1 + x.nextInt(38), 8 + x.nextInt(7)));
            for (int i = 0; i < text.length(); i++) {
                t.call("say", text.charAt(i));
                if (x.nextInt(4) == 0) {
                    t.call("fault");
                }
            }
            t.call("fault");
            t.call("read");
            if (x.nextBoolean()) {
                t.call("wipe");
            }
            for (int i = 0; i < 20; i++) {
                t.call("node", x.nextInt(33) - 1, x.nextInt(7) - 1);
                t.call("stores", x.nextInt(10));
            }
        }
    }

    private static void covers(Random x) {
        Twins t = new Twins();
        for (int i = 0; i < 8; i++) {
            // The usual ones, so that most trees can be covered.
            t.sayAll(new String[] {"V", "K", "+RR", "-RR", "*RR", "&RR", "~R", "@A"}[i]);
            t.call("pattern", 0, x.nextInt(8));
        }
        t.sayAll("R");
        t.call("pattern", 1, x.nextInt(3));
        for (int round = 0; round < 12; round++) {
            t.sayAll(spoilt(x, tree(x, PATTERN_LEAVES, x.nextInt(4) == 0 ? 1 : 1 + x.nextInt(7), 12)));
            t.call("pattern", x.nextInt(2), x.nextInt(6));
            t.call("wipe");
            if (round % 2 == 0) {
                t.sayAll(tree(x, "ab01", 1 + x.nextInt(30), 12));
                t.call("read");
            }
            t.call("price", x.nextInt(17), x.nextInt(22));
            for (int i = 0; i < 8; i++) {
                t.call("cover", x.nextInt(30), x.nextInt(2), x.nextInt(2));
                t.call("code", x.nextInt(40) - 2, x.nextInt(2));
            }
            t.call("code", -1, 0);
        }
        t.call("clear");
        t.call("cover", 0, 0, 0);
    }

    private static void instruction(Random x, Twins t, int registers) {
        int op = x.nextInt(7);
        t.call("add", op, x.nextInt(registers), x.nextInt(registers), op < 5 ? x.nextInt(registers) : 0, 1 + x.nextInt(5));
    }

    private static void rows(Random x) {
        Twins t = new Twins();
        for (int round = 0; round < 3; round++) {
            int registers = 2 + x.nextInt(5);
            int n = x.nextInt(14);
            for (int i = 0; i < n; i++) {
                instruction(x, t, registers);
                t.call("weigh", i, x.nextInt(4) == 0 ? x.nextInt(102) : 1 + x.nextInt(5));
            }
            t.call("keep", x.nextInt(64));
            for (int i = 0; i < 12; i++) {
                t.call("about", i, x.nextInt(8) - 1);
                t.call("about", i, 5);
                t.call("ahead", x.nextInt(13), x.nextInt(13));
                t.call("lives", i);
                t.call("place", i);
                t.call("run", x.nextInt(17), x.nextInt(17), x.nextInt(7));
            }
            t.call("end");
            t.call("crowd");
            for (int k = -1; k < 8; k++) {
                t.call("spilled", k, x.nextInt(2));
            }
            t.call("thin");
            for (int i = 0; i < 12; i++) {
                t.call("about", i, x.nextInt(6));
                t.call("weigh", i, 1);
            }
            t.call("drop");
        }
    }

    private static void orders(Random x, int n) {
        Twins t = new Twins();
        int registers = 3 + x.nextInt(4);
        for (int i = 0; i < n; i++) {
            instruction(x, t, registers);
            t.call("weigh", i, i + 1);
        }
        t.call("best", -1);
        t.call("best", x.nextInt(n));
        t.call("sort");
        t.call("end");
        for (int i = 0; i < n; i++) {
            t.call("weigh", i, 1);
        }
    }

    /** Rows one behind another in one object: nothing of the last may be left. */
    private static void ordersInTurn(Random x) {
        Twins t = new Twins();
        for (int round = 0; round < 10; round++) {
            int n = 1 + x.nextInt(6);
            int registers = 2 + x.nextInt(5);
            for (int i = 0; i < n; i++) {
                instruction(x, t, registers);
                t.call("best", -1);
            }
            for (int i = 0; i <= n; i++) {
                t.call("best", i);
            }
            t.call(x.nextBoolean() ? "sort" : "thin");
            t.call("best", 0);
            t.call("drop");
        }
    }

    private static void words(Random x) {
        Twins t = new Twins();
        int n = 1 + x.nextInt(5);
        for (int i = 0; i < n; i++) {
            int op = x.nextInt(7);
            int to = i == n - 1 ? 0 : x.nextInt(3);
            t.call("add", op, to, x.nextInt(3), op < 5 ? x.nextInt(3) : 0, 1);
        }
        int most = x.nextInt(5);
        int length = t.call("shortest", most, -1);
        for (int i = 0; i < length && most <= 3; i++) {
            t.call("shortest", most, i);
        }
    }

    /** All calls in any order, with numbers about their edges; the dear ones are rare. */
    private static void anything(Random x) {
        Twins t = new Twins();
        String signs = "+-*&~@abch0159RAKVxi#";
        for (int i = 0; i < 500; i++) {
            switch (x.nextInt(28)) {
                case 0: case 1: t.call("say", signs.charAt(x.nextInt(signs.length()))); break;
                case 2: t.call("say", new int[] {32, 33, 126, 127, -1}[x.nextInt(5)]); break;
                case 3: t.call("fault"); break;
                case 4: t.call("read"); break;
                case 5: t.call("node", x.nextInt(6) - 1, x.nextInt(7) - 1); break;
                case 6: case 7: t.call("pattern", x.nextInt(4) - 1, x.nextInt(24) - 1); break;
                case 8: t.call("price", x.nextInt(18) - 1, x.nextInt(24) - 1); break;
                case 9: t.call("cover", x.nextInt(6) - 1, x.nextInt(4) - 1, x.nextInt(4) - 1); break;
                case 10: t.call("code", x.nextInt(8) - 3, x.nextInt(4) - 1); break;
                case 11: t.call("stores", x.nextInt(11)); break;
                case 12: case 13: case 14: instruction(x, t, 6); break;
                case 15: t.call("add", x.nextInt(9) - 1, x.nextInt(8) - 1, x.nextInt(8) - 1, x.nextInt(8) - 1, x.nextInt(8) - 1); break;
                case 16: t.call("about", x.nextInt(14) - 1, x.nextInt(8) - 1); break;
                case 17: t.call("end"); break;
                case 18: t.call("ahead", x.nextInt(14) - 1, x.nextInt(14) - 1); break;
                case 19: t.call("keep", x.nextInt(68) - 2); break;
                case 20: t.call("weigh", x.nextInt(14) - 1, x.nextInt(104) - 1); break;
                case 21: t.call("lives", x.nextInt(14) - 1); break;
                case 22: t.call("place", x.nextInt(14) - 1); break;
                case 23: t.call("crowd"); break;
                case 24: t.call("spilled", x.nextInt(15) - 1, x.nextInt(4) - 1); break;
                case 25: t.call("run", x.nextInt(18) - 1, x.nextInt(18) - 1, x.nextInt(8) - 1); break;
                case 26: t.call("told", x.nextInt(7) - 1); break;
                default: rare(x, t); break;
            }
        }
    }

    /** Every call in many states, with the numbers at which sums run over. */
    private static void extremes(Random x) {
        Twins t = new Twins();
        int[] edges = {Integer.MIN_VALUE, Integer.MIN_VALUE + 1, -7, -2, -1, 0, 1, 12, 64, Integer.MAX_VALUE - 1, Integer.MAX_VALUE};
        String[] ones = {"say", "stores", "best", "keep", "lives", "place", "told"};
        String[] twos = {"node", "pattern", "price", "code", "about", "ahead", "weigh", "spilled"};
        for (int round = 0; round < 3; round++) {
            for (int i = 0; i < 100; i++) {
                int a = edges[x.nextInt(edges.length)];
                int b = edges[x.nextInt(edges.length)];
                int c = edges[x.nextInt(edges.length)];
                t.call(ones[x.nextInt(ones.length)], a);
                t.call(twos[x.nextInt(twos.length)], a, b);
                t.call(x.nextBoolean() ? "cover" : "run", a, b, c);
                t.call("add", a, b, c, b, a);
                t.call("shortest", a == 12 ? 2 : a, b);
            }
            t.call("wipe");
            t.sayAll(tree(x, LEAVES, 20, 12));
            t.call("read");
            t.sayAll("V");
            t.call("pattern", 0, 1);
            for (int i = 0; i < 5; i++) {
                instruction(x, t, 6);
            }
        }
    }

    private static void rare(Random x, Twins t) {
        switch (x.nextInt(9)) {
            case 0: t.call("wipe"); break;
            case 1: t.call("clear"); break;
            case 2: t.call("drop"); break;
            case 3: t.call("thin"); break;
            case 4: t.call("shortest", x.nextInt(3) - 1, x.nextInt(4) - 2); break;
            case 5: t.call("shortest", 4, -1); break;
            case 6: t.call("sort"); break;
            case 7: t.call("best", x.nextInt(13) - 2); break;
            default: t.call("shortest", 2, x.nextInt(4) - 2); break;
        }
    }
}
