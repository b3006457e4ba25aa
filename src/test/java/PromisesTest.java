/** Each promise of the document: ordinary numbers, the edges it names, and wrong ones. */
public final class PromisesTest {
    private static final int UNKNOWN = -1, OUTSIDE = -2, STATE = -3, FULL = -4, NO = -5, NONE = -6;
    private static final int LEAST = Integer.MIN_VALUE, MOST = Integer.MAX_VALUE;
    private static int wrong;
    private static int asked;

    private static void due(String what, int got, int want) {
        asked++;
        if (got != want) {
            wrong++;
            System.out.println(what + " answered " + got + ", due is " + want);
        }
    }

    /** The answers of several calls of one kind. */
    private static void dueAll(String what, int[] got, int... want) {
        due(what + ": how many", got.length, want.length);
        for (int i = 0; i < Math.min(got.length, want.length); i++) {
            due(what + " at " + i, got[i], want[i]);
        }
    }

    private static int[] row(int... numbers) {
        return numbers;
    }

    private static CodeCover said(CodeCover c, String text) {
        for (int i = 0; i < text.length(); i++) {
            c.say(text.charAt(i));
        }
        return c;
    }

    private static CodeCover withTree(String text) {
        CodeCover c = said(new CodeCover(), text);
        due("read of " + text, c.read(), text.length());
        return c;
    }

    private static int laid(CodeCover c, String text, int head, int price) {
        return said(c, text).pattern(head, price);
    }

    private static int faultOf(String text) {
        return said(new CodeCover(), text).fault();
    }

    public static void main(String[] args) {
        constants();
        aNewObject();
        signs();
        faults();
        reading();
        nodes();
        patterns();
        prices();
        covers();
        chains();
        codes();
        stores();
        adding();
        cycles();
        aheads();
        bestOrders();
        sorting();
        lives();
        spills();
        running();
        shortest();
        thinning();
        told();
        System.out.println(asked + " answers, " + wrong + " not as due");
        if (wrong != 0) {
            System.exit(1);
        }
    }

    private static void constants() {
        dueAll("constants", row(CodeCover.UNKNOWN, CodeCover.OUTSIDE, CodeCover.STATE, CodeCover.FULL, CodeCover.NO, CodeCover.NONE),
                -1, -2, -3, -4, -5, -6);
    }

    private static void aNewObject() {
        CodeCover c = new CodeCover();
        dueAll("1 told", row(c.told(0), c.told(1), c.told(2), c.told(3), c.told(4)), 0, 0, 0, 0, 1);
        dueAll("1 emptied", row(c.wipe(), c.clear(), c.drop(), c.thin()), 0, 0, 0, 0);
        dueAll("1 nothing", row(c.fault(), c.read(), c.node(0, 0), c.cover(0, 0, 0), c.code(-1, 0), c.stores(2)),
                0, NO, UNKNOWN, UNKNOWN, STATE, STATE);
        dueAll("1 no row", row(c.end(), c.best(-1), c.best(0), c.sort(), c.crowd(), c.spilled(0, 0), c.spilled(0, 1)),
                0, 0, NONE, 0, 0, 0, 0);
        dueAll("1 words", row(c.run(7, 3, 0), c.run(7, 3, 1), c.run(7, 3, 2), c.shortest(0, -1), c.shortest(3, 0)), 7, 3, 0, 0, NONE);
        due("1 kept", c.keep(5), 1);
    }

    private static void signs() {
        CodeCover c = new CodeCover();
        dueAll("2 edges", row(c.say(32), c.say(33), c.say(126), c.say(127), c.say(LEAST), c.say(MOST)), OUTSIDE, 1, 2, OUTSIDE, OUTSIDE, OUTSIDE);
        for (int i = 3; i <= 60; i++) {
            due("2 say", c.say('a'), i);
        }
        dueAll("2 full", row(c.say('a'), c.say(32), c.told(0)), FULL, OUTSIDE, 60);
        dueAll("3 wipe", row(c.wipe(), c.wipe(), c.told(0), c.say('a')), 60, 0, 0, 1);
    }

    private static void faults() {
        String[] right = {"a", "h", "0", "9", "+ab", "-a9", "*+ab~@h", "&~1@2"};
        for (String text : right) {
            due("4 fault of " + text, faultOf(text), NONE);
        }
        String[] open = {"", "+", "+a", "~", "@", "*+ab", "&~@"};
        for (String text : open) {
            due("4 fault of " + text, faultOf(text), text.length());
        }
        dueAll("4 signs", row(faultOf("i"), faultOf("`"), faultOf("/"), faultOf(":"), faultOf("+aR"), faultOf("+Ka"), faultOf("!")),
                0, 0, 0, 0, 2, 1, 0);
        dueAll("4 behind", row(faultOf("ab"), faultOf("+abc"), faultOf("1+"), faultOf("~aZ")), 1, 3, 1, 2);
        String twelve = "~~~~~~~~~~~~";
        dueAll("4 depth", row(faultOf(twelve), faultOf(twelve + "a"), faultOf(twelve + "~"), faultOf(twelve + "+ab"), faultOf(twelve + "Z")),
                12, NONE, 12, 12, 12);
        dueAll("4 depth aside", row(faultOf("++++++++++++a+"), faultOf("++++++++++++ab+"), faultOf("+a" + "~~~~~~~~~~~" + "b"), faultOf("+a" + twelve)),
                13, 15, NONE, 13);
    }

    private static void reading() {
        String fifteen = "+*+ab+cd*+ef+gh";
        CodeCover c = withTree("~+" + fifteen.replace("+gh", "g") + fifteen);
        due("5 nodes", c.told(1), 30);
        due("5 pad", c.told(0), 0);
        said(c, "+" + fifteen + fifteen);
        dueAll("5 full", row(c.read(), c.told(0), c.told(1), c.node(0, 0)), FULL, 31, 30, '~');
        said(c, "a");
        dueAll("5 fault ahead of full", row(c.read(), c.told(0), c.told(1), c.wipe()), NO, 32, 30, 32);
        dueAll("5 another", row(said(c, "7").read(), c.told(1), c.node(0, 0), c.node(1, 0)), 1, 1, '7', UNKNOWN);
        dueAll("5 nothing", row(c.read(), c.told(1)), NO, 1);
    }

    private static void nodes() {
        CodeCover c = withTree("-@*a~4&b+12");
        String signs = "-@*a~4&b+12";
        int[][] want = {
            {-1, 2, 11, 3}, {0, 1, 5, 2}, {1, 2, 4, 2}, {2, 0, 1, 1}, {2, 1, 2, 1}, {4, 0, 1, 1},
            {0, 2, 5, 2}, {6, 0, 1, 1}, {6, 2, 3, 2}, {8, 0, 1, 1}, {8, 0, 1, 1}};
        for (int i = 0; i < 11; i++) {
            dueAll("6 node " + i, row(c.node(i, 0), c.node(i, 1), c.node(i, 2), c.node(i, 3), c.node(i, 4)),
                    signs.charAt(i), want[i][0], want[i][1], want[i][2], want[i][3]);
        }
        dueAll("6 wrong", row(c.node(11, 0), c.node(-1, 0), c.node(LEAST, 9), c.node(MOST, 0), c.node(0, 5), c.node(0, -1), c.node(10, MOST)),
                UNKNOWN, UNKNOWN, UNKNOWN, UNKNOWN, OUTSIDE, OUTSIDE, OUTSIDE);
    }

    private static void patterns() {
        CodeCover c = new CodeCover();
        dueAll("7 none", row(c.pattern(0, 0), laid(c, "a", 0, 0), c.wipe(), laid(c, "+R", 0, 0), c.wipe(), laid(c, "RA", 0, 0), c.wipe()),
                NO, NO, 1, NO, 2, NO, 2);
        said(c, "R");
        dueAll("7 chains", row(c.pattern(0, 0), c.pattern(2, 0), c.pattern(-1, 0), c.pattern(1, -1), c.pattern(1, 21), c.told(0), c.pattern(1, 20), c.told(0)),
                NO, OUTSIDE, OUTSIDE, OUTSIDE, OUTSIDE, 1, 0, 0);
        dueAll("7 to ADDRESS", row(laid(c, "A", 1, 0), c.pattern(0, 0)), NO, 1);
        dueAll("7 leaves", row(laid(c, "K", 0, 0), laid(c, "V", 1, 0), laid(c, "9", 1, 0), laid(c, "~R", 0, 0), laid(c, "@A", 1, 1)), 2, 3, 4, 5, 6);
        dueAll("7 twelve", row(laid(c, "~~~~~~~~~~~R", 0, 0), laid(c, "~~~~~~~~~~~~R", 0, 0), c.wipe()), 7, NO, 13);
        for (int p = 8; p < 16; p++) {
            due("7 number", laid(c, "*RA", 0, 1), p);
        }
        dueAll("7 full", row(c.pattern(0, 0), laid(c, "K", 0, 0), c.pattern(0, 21), c.told(0), c.told(2)), FULL, FULL, OUTSIDE, 1, 16);
        dueAll("9 clear", row(c.clear(), c.clear(), c.told(2), c.told(0), c.pattern(0, 0)), 16, 0, 0, 1, 0);
    }

    private static void prices() {
        CodeCover c = withTree("a");
        laid(c, "V", 0, 7);
        dueAll("8 price", row(c.price(0, 0), c.cover(0, 0, 0), c.price(0, 20), c.cover(0, 0, 0), c.price(0, 3)), 7, 0, 0, 20, 20);
        dueAll("8 wrong", row(c.price(1, 1), c.price(-1, 99), c.price(MOST, 0), c.price(0, -1), c.price(0, 21), c.price(0, 5)),
                UNKNOWN, UNKNOWN, UNKNOWN, OUTSIDE, OUTSIDE, 3);
    }

    private static void covers() {
        CodeCover c = withTree("+@+a1*b3");
        dueAll("10 without any", row(c.cover(0, 0, 0), c.cover(0, 1, 1), c.cover(8, 0, 0), c.cover(-1, 5, 5)), NONE, NONE, UNKNOWN, UNKNOWN);
        laid(c, "V", 0, 2);
        laid(c, "+RR", 0, 3);
        laid(c, "@A", 0, 4);
        laid(c, "+R1", 1, 1);
        laid(c, "*RK", 0, 6);
        dueAll("10 sums", row(c.cover(0, 0, 0), c.cover(1, 0, 0), c.cover(2, 1, 0), c.cover(3, 0, 0), c.cover(5, 0, 0)), 18, 7, 3, 2, 8);
        dueAll("10 which", row(c.cover(0, 0, 1), c.cover(1, 0, 1), c.cover(2, 1, 1), c.cover(3, 0, 1), c.cover(5, 0, 1)), 1, 2, 3, 0, 4);
        dueAll("10 not", row(c.cover(2, 0, 0), c.cover(2, 0, 1), c.cover(4, 0, 0), c.cover(7, 0, 1), c.cover(0, 1, 0)), NONE, NONE, NONE, NONE, NONE);
        laid(c, "+RR", 0, 3);
        due("10 the least number", c.cover(0, 0, 1), 1);
        laid(c, "+RR", 0, 2);
        dueAll("10 the least sum", row(c.cover(0, 0, 1), c.cover(0, 0, 0)), 6, 17);
        laid(c, "+@+VK*VK", 0, 20);
        due("10 dear", c.cover(0, 0, 1), 6);
        c.price(7, 16);
        dueAll("10 whole", row(c.cover(0, 0, 1), c.cover(0, 0, 0), c.code(-1, 0)), 7, 16, 1);
        laid(c, "+@+V2*VK", 0, 0);
        due("10 another NUMBER", c.cover(0, 0, 1), 7);
        dueAll("10 wrong", row(c.cover(0, 2, 0), c.cover(0, -1, 0), c.cover(0, 0, 2), c.cover(0, 0, -1), c.cover(8, 2, 2)),
                OUTSIDE, OUTSIDE, OUTSIDE, OUTSIDE, UNKNOWN);
        said(c, "b").read();
        due("10 another TREE", c.cover(0, 0, 0), 2);
    }

    private static void chains() {
        CodeCover c = withTree("a");
        laid(c, "A", 0, 2);
        laid(c, "R", 1, 0);
        due("10 a CHAIN alone", c.cover(0, 0, 0), NONE);
        laid(c, "V", 1, 3);
        dueAll("10 CHAIN", row(c.cover(0, 0, 0), c.cover(0, 0, 1), c.cover(0, 1, 0), c.cover(0, 1, 1)), 5, 0, 3, 2);
        dueAll("11 CHAIN", row(c.code(-1, 0), c.code(0, 0), c.code(0, 1), c.code(1, 0), c.code(1, 1), c.code(2, 0)), 2, 2, 0, 0, 0, NONE);
        laid(c, "V", 0, 5);
        due("10 a CHAIN that is as good, of the least number", c.cover(0, 0, 1), 0);
        c.price(3, 4);
        due("10 no CHAIN", c.cover(0, 0, 1), 3);
        c.price(2, 4);
        due("10 from what is no CHAIN", c.cover(0, 1, 1), 1);
        c.price(0, 0);
        // To ADDRESS by number 1 from REGISTER would be dearer than number 2 itself.
        dueAll("10 both ways", row(c.cover(0, 0, 0), c.cover(0, 0, 1), c.cover(0, 1, 0), c.cover(0, 1, 1)), 4, 0, 4, 1);
        dueAll("11 both ways", row(c.code(-1, 1), c.code(0, 0), c.code(1, 0)), 2, 2, 0);
        c.clear();
        laid(c, "R", 1, 0);
        laid(c, "A", 0, 0);
        laid(c, "V", 0, 3);
        laid(c, "V", 1, 10);
        dueAll("10 no CHAIN from a CHAIN", row(c.cover(0, 0, 0), c.cover(0, 0, 1), c.cover(0, 1, 0), c.cover(0, 1, 1)), 3, 2, 3, 0);
    }

    private static void codes() {
        CodeCover c = withTree("-@a*b+c2");
        due("11 not COVERED", c.code(-1, 0), NO);
        laid(c, "-RR", 0, 1);
        laid(c, "V", 0, 1);
        laid(c, "@A", 0, 1);
        laid(c, "R", 1, 1);
        laid(c, "*R+RK", 0, 1);
        int[] which = {1, 3, 2, 1, 1, 4, 0};
        int[] where = {2, 2, 1, 4, 6, 3, 0};
        due("11 how many", c.code(-1, 1), 7);
        for (int i = 0; i < 7; i++) {
            dueAll("11 code " + i, row(c.code(i, 0), c.code(i, 1)), which[i], where[i]);
        }
        dueAll("11 none", row(c.code(7, 0), c.code(MOST, 1), c.code(-2, 0), c.code(LEAST, 0)), NONE, NONE, NONE, NONE);
        dueAll("11 wrong", row(c.code(0, 2), c.code(0, -1), c.code(-1, 2), new CodeCover().code(0, 2), new CodeCover().code(0, 0)),
                OUTSIDE, OUTSIDE, OUTSIDE, OUTSIDE, STATE);
        c.clear();
        due("11 cleared", c.code(0, 0), NO);
        CodeCover deep = withTree("~@~@~@~@~@~@a");
        laid(deep, "~R", 1, 1);
        laid(deep, "@A", 0, 1);
        laid(deep, "V", 1, 1);
        laid(deep, "A", 0, 1);
        dueAll("11 deep", row(deep.code(-1, 0), deep.code(0, 1), deep.code(12, 1), deep.code(13, 0), deep.code(13, 1)), 14, 12, 0, 3, 0);
    }

    private static void stores() {
        CodeCover c = withTree("+*+ab+cd*+ef+gh");
        dueAll("12 even", row(c.stores(2), c.stores(3), c.stores(4), c.stores(8)), 3, 1, 0, 0);
        c = withTree("++++abcde");
        dueAll("12 one side", row(c.stores(2), c.stores(3)), 0, 0);
        c = withTree("+~*ab@-cd");
        dueAll("12 one PART", row(c.stores(2), c.stores(3)), 1, 0);
        dueAll("12 wrong", row(c.stores(1), c.stores(9), c.stores(LEAST), new CodeCover().stores(9), new CodeCover().stores(8)),
                OUTSIDE, OUTSIDE, OUTSIDE, OUTSIDE, STATE);
    }

    private static void adding() {
        CodeCover c = new CodeCover();
        dueAll("13 wrong", row(c.add(-1, 0, 0, 0, 1), c.add(7, 0, 0, 0, 1), c.add(0, 6, 0, 0, 1), c.add(0, -1, 0, 0, 1),
                c.add(0, 0, 6, 0, 1), c.add(0, 0, -1, 0, 1), c.add(0, 0, 0, 6, 1), c.add(0, 0, 0, -1, 1),
                c.add(0, 0, 0, 0, 0), c.add(0, 0, 0, 0, 6), c.add(5, 0, 0, 1, 1), c.add(6, 0, 0, 5, 1), c.told(3)),
                OUTSIDE, OUTSIDE, OUTSIDE, OUTSIDE, OUTSIDE, OUTSIDE, OUTSIDE, OUTSIDE, OUTSIDE, OUTSIDE, OUTSIDE, OUTSIDE, 0);
        for (int i = 0; i < 12; i++) {
            due("13 add", c.add(i % 7, i % 6, 5 - i % 6, i % 7 < 5 ? 3 : 0, 1 + i % 5), i);
        }
        dueAll("13 full", row(c.add(0, 0, 0, 0, 1), c.add(5, 0, 0, 2, 1), c.told(3)), FULL, OUTSIDE, 12);
        for (int i = 0; i < 12; i++) {
            dueAll("15 about " + i, row(c.about(i, 0), c.about(i, 1), c.about(i, 2), c.about(i, 3), c.about(i, 4)),
                    i % 7, i % 6, 5 - i % 6, i % 7 < 5 ? 3 : 0, 1 + i % 5);
        }
        dueAll("15 wrong", row(c.about(12, 0), c.about(-1, 9), c.about(MOST, 0), c.about(0, 6), c.about(0, -1)),
                UNKNOWN, UNKNOWN, UNKNOWN, OUTSIDE, OUTSIDE);
        c.weigh(0, 50);
        dueAll("14 drop", row(c.drop(), c.drop(), c.about(0, 0), c.add(0, 1, 0, 0, 1), c.weigh(0, 2)), 12, 0, UNKNOWN, 0, 1);
    }

    private static CodeCover withRow(int... numbers) {
        CodeCover c = new CodeCover();
        for (int i = 0; i + 4 < numbers.length; i += 5) {
            due("add", c.add(numbers[i], numbers[i + 1], numbers[i + 2], numbers[i + 3], numbers[i + 4]), i / 5);
        }
        return c;
    }

    private static void cycles() {
        // The third reads what the second set, not the first; twice has no second source, so register 0 is none.
        CodeCover c = withRow(0, 2, 0, 1, 5, 0, 2, 0, 1, 1, 0, 3, 2, 1, 1, 0, 0, 1, 1, 5, 5, 4, 3, 0, 1, 6, 5, 0, 0, 2);
        dueAll("15 CYCLES", row(c.about(0, 5), c.about(1, 5), c.about(2, 5), c.about(3, 5), c.about(4, 5), c.about(5, 5)), 0, 1, 2, 3, 4, 8);
        due("16 end", c.end(), 10);
        c = withRow(0, 1, 0, 0, 5, 0, 2, 0, 0, 1);
        dueAll("16 of one that is not last", row(c.end(), c.about(1, 5)), 5, 1);
        c = withRow(1, 0, 0, 1, 4, 4, 0, 1, 0, 3, 2, 0, 0, 0, 2);
        dueAll("16 its own register", row(c.about(1, 5), c.about(2, 5), c.end()), 4, 7, 9);
    }

    private static void aheads() {
        // 0 sets 1; 1 uses 1; 2 sets 1; 3 uses neither; 4 sets what 3 uses; 5 is a not with register 0 untouched.
        CodeCover c = withRow(0, 1, 0, 0, 1, 0, 2, 1, 0, 1, 0, 1, 5, 5, 1, 0, 3, 4, 4, 1, 5, 4, 5, 0, 1, 6, 0, 5, 0, 1);
        dueAll("17 ahead", row(c.ahead(0, 1), c.ahead(1, 2), c.ahead(0, 2), c.ahead(2, 3), c.ahead(3, 4), c.ahead(2, 4), c.ahead(0, 5), c.ahead(4, 5), c.ahead(3, 5)),
                1, 1, 1, 0, 1, 0, 1, 0, 0);
        dueAll("17 wrong", row(c.ahead(0, 6), c.ahead(-1, 2), c.ahead(6, 0), c.ahead(1, 1), c.ahead(2, 1), c.ahead(LEAST, MOST)),
                UNKNOWN, UNKNOWN, UNKNOWN, OUTSIDE, OUTSIDE, UNKNOWN);
        c = withRow(0, 2, 0, 1, 1, 0, 3, 2, 2, 1, 0, 4, 3, 3, 1);
        dueAll("17 of two that touch one register", row(c.ahead(0, 1), c.ahead(1, 2), c.ahead(0, 2)), 1, 1, 0);
    }

    private static void bestOrders() {
        CodeCover c = withRow(0, 2, 0, 1, 5, 0, 2, 2, 2, 5, 0, 3, 0, 1, 5, 0, 3, 3, 3, 5, 6, 4, 0, 0, 1, 6, 5, 0, 0, 1);
        due("16 as written", c.end(), 16);
        dueAll("18 best", row(c.best(-1), c.best(0), c.best(1), c.best(2), c.best(3), c.best(4), c.best(5), c.best(6)),
                11, 0, 2, 1, 3, 4, 5, NONE);
        dueAll("18 none", row(c.best(-2), c.best(MOST), c.best(LEAST)), NONE, NONE, NONE);
        c = withRow(0, 1, 0, 0, 1, 0, 2, 0, 0, 1, 0, 3, 0, 0, 1);
        dueAll("18 the first by numbers", row(c.best(-1), c.best(0), c.best(1), c.best(2)), 3, 0, 1, 2);
        for (int i = 3; i < 10; i++) {
            c.add(0, 4, 4, 4, 1);
        }
        dueAll("18 ten", row(c.best(-1), c.best(9), c.best(10)), 10, 9, NONE);
        c.add(0, 4, 4, 4, 1);
        dueAll("18 eleven", row(c.best(-1), c.best(0), c.best(99), c.sort(), c.told(3)), STATE, STATE, STATE, STATE, 11);
        c.drop();
        dueAll("18 dropped", row(c.best(-1), c.best(0)), 0, NONE);
    }

    private static void sorting() {
        CodeCover c = withRow(0, 2, 0, 1, 3, 1, 3, 2, 1, 1, 6, 4, 0, 0, 2);
        for (int i = 0; i < 3; i++) {
            c.weigh(i, 10 + i);
        }
        dueAll("19 sort", row(c.end(), c.sort(), c.end(), c.best(1), c.told(3)), 6, 4, 4, 1, 3);
        dueAll("19 order", row(c.about(0, 0), c.about(1, 0), c.about(2, 0), c.about(1, 1), c.about(2, 2), c.about(1, 4)), 0, 6, 1, 4, 2, 2);
        dueAll("19 WEIGHTS", row(c.weigh(0, 1), c.weigh(1, 1), c.weigh(2, 1)), 10, 12, 11);
        due("19 the same words", c.run(9, 4, 3), 9);
    }

    private static void lives() {
        // 0 is read by 1 and set anew by 2, which reads it too; 3 is read by nobody; 4 is kept.
        CodeCover c = withRow(0, 1, 0, 0, 1, 0, 2, 1, 0, 1, 5, 1, 1, 0, 1, 0, 3, 2, 1, 1, 0, 0, 1, 1, 1, 6, 4, 0, 0, 1);
        dueAll("22 lives", row(c.lives(0), c.lives(1), c.lives(2), c.lives(3), c.lives(4), c.lives(5)), 2, 2, 2, 0, 2, 0);
        dueAll("23 place", row(c.place(0), c.place(1), c.place(2), c.place(3), c.place(4), c.place(5)), 1, 3, 6, 4, 16, 16);
        due("24 crowd", c.crowd(), 2);
        dueAll("20 keep", row(c.keep(64), c.keep(-1), c.keep(63), c.keep(63), c.told(4)), OUTSIDE, OUTSIDE, 1, 63, 63);
        dueAll("22 all kept", row(c.lives(0), c.lives(1), c.lives(2), c.lives(3), c.lives(4), c.lives(5)), 2, 5, 4, 3, 2, 1);
        dueAll("23 all kept", row(c.place(3), c.place(5), c.crowd()), 14, 62, 5);
        dueAll("20 none", row(c.keep(0), c.lives(4), c.place(5), c.keep(1)), 63, 1, 0, 0);
        dueAll("22 wrong", row(c.lives(6), c.lives(-1), c.lives(MOST), c.place(6), c.place(-1), c.place(LEAST)),
                UNKNOWN, UNKNOWN, UNKNOWN, UNKNOWN, UNKNOWN, UNKNOWN);
        dueAll("21 weigh", row(c.weigh(0, 100), c.weigh(0, 1), c.weigh(0, 0), c.weigh(0, 101), c.weigh(6, 0), c.weigh(-1, 5), c.weigh(0, 1)),
                1, 100, OUTSIDE, OUTSIDE, UNKNOWN, UNKNOWN, 1);
    }

    private static void spills() {
        CodeCover c = withRow(0, 1, 0, 0, 1, 0, 2, 0, 0, 1, 0, 3, 0, 0, 1, 0, 4, 0, 0, 1);
        c.keep(30);
        dueAll("25 the least as bits", row(c.spilled(4, 0), c.spilled(3, 0), c.spilled(2, 0), c.spilled(1, 0), c.spilled(0, 0)), 0, 1, 3, 7, 15);
        dueAll("25 WEIGHTS", row(c.spilled(4, 1), c.spilled(3, 1), c.spilled(2, 1), c.spilled(1, 1), c.spilled(0, 1), c.spilled(12, 1)), 0, 1, 2, 3, 4, 0);
        c.weigh(0, 100);
        c.weigh(1, 30);
        c.weigh(2, 70);
        c.weigh(3, 40);
        dueAll("25 the least sum", row(c.spilled(3, 0), c.spilled(2, 0), c.spilled(1, 0), c.spilled(1, 1)), 2, 10, 14, 140);
        dueAll("25 wrong", row(c.spilled(13, 0), c.spilled(-1, 0), c.spilled(0, 2), c.spilled(0, -1)), OUTSIDE, OUTSIDE, OUTSIDE, OUTSIDE);
        // One long VALUE against two short ones at other PLACES.
        c = withRow(0, 1, 0, 0, 1, 0, 2, 0, 0, 1, 0, 3, 2, 2, 1, 0, 0, 3, 1, 1);
        c.weigh(0, 2);
        dueAll("25 long or short", row(c.spilled(1, 0), c.spilled(1, 1)), 1, 2);
        c.weigh(0, 3);
        dueAll("25 short ones lighter", row(c.spilled(1, 0), c.spilled(1, 1)), 6, 2);
    }

    private static void running() {
        int[] due = {(9 + 12) % 16, (9 + 16 - 12) % 16, 9 & 12, 9 | 12, 9 ^ 12, 18 % 16, 15 - 9};
        for (int op = 0; op < due.length; op++) {
            CodeCover c = withRow(op, 5, 0, op < 5 ? 1 : 0, 1);
            dueAll("26 op " + op, row(c.run(9, 12, 5), c.run(9, 12, 0), c.run(9, 12, 1), c.run(9, 12, 4)), due[op], 9, 12, 0);
        }
        CodeCover c = withRow(1, 2, 3, 0, 1, 0, 0, 2, 1, 1, 6, 4, 5, 0, 1);
        dueAll("26 row", row(c.run(15, 15, 0), c.run(0, 15, 0), c.run(1, 0, 2), c.run(1, 0, 4)), 0, 15, 15, 15);
        dueAll("26 wrong", row(c.run(16, 0, 0), c.run(-1, 0, 0), c.run(0, 16, 0), c.run(0, -1, 0), c.run(0, 0, 6), c.run(0, 0, -1)),
                OUTSIDE, OUTSIDE, OUTSIDE, OUTSIDE, OUTSIDE, OUTSIDE);
    }

    private static void shortest() {
        CodeCover c = withRow(5, 1, 0, 0, 1);
        dueAll("27 none is needed", row(c.shortest(0, -1), c.shortest(3, -1), c.shortest(0, 0), c.shortest(0, -2)), 0, 0, NONE, NONE);
        c = withRow(5, 0, 0, 0, 1);
        dueAll("27 twice", row(c.shortest(0, -1), c.shortest(1, -1), c.shortest(3, 0), c.shortest(3, 1), c.shortest(0, 5)), NO, 1, 0, NONE, NO);
        c = withRow(6, 3, 1, 0, 1, 6, 0, 3, 0, 1);
        dueAll("27 a copy", row(c.shortest(2, -1), c.shortest(2, 0)), 1, 12);
        c = withRow(6, 0, 0, 0, 1);
        dueAll("27 not", row(c.shortest(1, 0), c.add(0, 0, 0, 1, 1), c.shortest(1, -1), c.shortest(2, 0), c.shortest(2, 1)), 6000, 1, NO, 1001, 6000);
        c = withRow(5, 2, 0, 0, 1, 5, 2, 2, 0, 1, 0, 0, 2, 0, 1);
        dueAll("27 five times", row(c.shortest(3, -1), c.shortest(3, 0), c.shortest(3, 1), c.shortest(3, 2)), 3, 100, 1, 1);
        c.add(1, 0, 0, 1, 1);
        dueAll("27 no", row(c.shortest(3, -1), c.shortest(3, 0), c.shortest(3, MOST)), NO, NO, NO);
        dueAll("27 wrong", row(c.shortest(4, -1), c.shortest(-1, -1), c.shortest(MOST, 0)), OUTSIDE, OUTSIDE, OUTSIDE);
        c.drop();
        due("27 dropped", c.shortest(3, -1), 0);
    }

    private static void thinning() {
        // 3 is read by nobody, then 1 no more; 0 and 2 stay with their WEIGHTS.
        CodeCover c = withRow(0, 1, 0, 0, 1, 0, 2, 0, 1, 2, 1, 0, 1, 0, 3, 6, 3, 2, 0, 4);
        for (int i = 0; i < 4; i++) {
            c.weigh(i, 20 + i);
        }
        dueAll("28 thin", row(c.thin(), c.told(3), c.about(1, 0), c.about(1, 4), c.weigh(0, 1), c.weigh(1, 1), c.thin()), 2, 2, 1, 3, 20, 22, 0);
        due("28 the same words", c.run(6, 1, 0), 6);
        c.keep(2);
        dueAll("28 another is kept", row(c.thin(), c.told(3), c.about(0, 1)), 1, 1, 1);
        c.keep(0);
        dueAll("28 none is kept", row(c.thin(), c.told(3)), 1, 0);
        c = withRow(6, 0, 0, 0, 4);
        c.keep(0);
        dueAll("28 ahead", row(c.shortest(3, -1), c.best(-1)), 1, 4);
        dueAll("28 behind", row(c.thin(), c.shortest(3, -1), c.best(-1)), 1, 0, 0);
        // The first goes first: of two that set one register the one ahead is not used.
        c = withRow(0, 0, 1, 1, 1, 0, 0, 1, 0, 1, 0, 0, 1, 1, 2);
        dueAll("28 overwritten", row(c.thin(), c.told(3), c.about(0, 4)), 2, 1, 2);
    }

    private static void told() {
        CodeCover c = withTree("+ab");
        laid(c, "V", 0, 0);
        laid(c, "K", 0, 0);
        said(c, "xyzzy").add(0, 0, 0, 0, 1);
        c.keep(42);
        dueAll("29 told", row(c.told(0), c.told(1), c.told(2), c.told(3), c.told(4)), 5, 3, 2, 1, 42);
        dueAll("29 wrong", row(c.told(5), c.told(-1), c.told(MOST), c.told(LEAST)), OUTSIDE, OUTSIDE, OUTSIDE, OUTSIDE);
    }
}
