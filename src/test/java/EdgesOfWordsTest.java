/** Promises 26, 27 and 29 where the document names an edge: WORDS, SHORTEST, what is told. */
public final class EdgesOfWordsTest {
    public static void main(String[] args) {
        wrapAround();
        runAtTheEdges();
        afresh();
        wholeRows();
        numbersOfShortest();
        whichOfTheRow();
        fewest();
        all256Pairs();
        firstOfSeveral();
        afterTheRowChanged();
        toldAtTheEdges();
        fiveHundredAndTwelveCalls();
        Due.finish(26, 27, 29);
    }

    private static int word(int op, int x, int y) {
        switch (op) {
            case 0: return (x + y) % 16;
            case 1: return (x - y + 16) % 16;
            case 2: return x & y;
            case 3: return x | y;
            case 4: return x ^ y;
            case 5: return (x + x) % 16;
            default: return 15 - x;
        }
    }

    private static void wrapAround() {
        for (int op = 0; op <= 6; op++) {
            CodeCover c = Made.row(op, 2, 0, op < 5 ? 1 : 0, 1);
            for (int pair = 0; pair < 256; pair++) {
                int a = pair % 16;
                int b = pair / 16;
                Due.is(26, "left over by 16: " + op + " of " + a + " and " + b, c.run(a, b, 2), word(op, a, b));
            }
        }
        CodeCover c = Made.row(0, 2, 0, 1, 1, 1, 3, 2, 1, 1, 5, 4, 1, 0, 1, 6, 5, 2, 0, 1);
        Due.all(26, "+ and - and twice run over", Due.of(c.run(15, 15, 2), c.run(15, 15, 3), c.run(15, 15, 4), c.run(15, 15, 5),
                c.run(1, 8, 4), c.run(8, 8, 2)), 14, 15, 14, 1, 0, 0);
    }

    private static void runAtTheEdges() {
        CodeCover c = new CodeCover();
        Due.all(26, "an empty ROW", Due.of(c.run(15, 14, 0), c.run(15, 14, 1), c.run(15, 14, 2), c.run(15, 14, 3), c.run(15, 14, 4),
                c.run(15, 14, 5), c.run(0, 0, 0)), 15, 14, 0, 0, 0, 0, 0);
        Due.each(26, "OUTSIDE: a", Due.OUTSIDE, c.run(-1, 0, 0), c.run(16, 0, 0), c.run(Due.LEAST, 0, 0), c.run(Due.MOST, 0, 0));
        Due.each(26, "OUTSIDE: b", Due.OUTSIDE, c.run(0, -1, 0), c.run(0, 16, 0), c.run(0, Due.LEAST, 0), c.run(0, Due.MOST, 0));
        Due.each(26, "OUTSIDE: r", Due.OUTSIDE, c.run(0, 0, -1), c.run(0, 0, 6), c.run(0, 0, Due.LEAST), c.run(0, 0, Due.MOST));
    }

    private static void afresh() {
        CodeCover c = Made.row(0, 0, 0, 1, 1, 0, 5, 5, 0, 1, 6, 1, 1, 0, 1);
        for (int round = 0; round < 2; round++) {
            Due.all(26, "0 in all others, each time", Due.of(c.run(3, 4, 0), c.run(3, 4, 5), c.run(3, 4, 1), c.run(3, 4, 2)), 7, 7, 11, 0);
        }
        c.keep(0);
        Due.all(26, "what is KEPT is no matter", Due.of(c.run(3, 4, 0), c.run(3, 4, 5)), 7, 7);
    }

    private static void wholeRows() {
        CodeCover c = new CodeCover();
        for (int i = 0; i < 12; i++) {
            c.add(0, 0, 0, 1, 1);
            Due.all(26, "each INSTRUCTION counts", Due.of(c.run(0, 1, 0), c.run(9, 15, 0)), i + 1, (9 + 15 * (i + 1)) % 16);
        }
        c = Made.row(0, 2, 0, 1, 5, 6, 0, 1, 0, 1, 1, 1, 2, 0, 3, 4, 3, 2, 1, 1);
        Due.all(26, "as written, WAIT is no matter", Due.of(c.run(2, 3, 0), c.run(2, 3, 1), c.run(2, 3, 2), c.run(2, 3, 3)), 12, 9, 5, 12);
    }

    private static void numbersOfShortest() {
        CodeCover c = new CodeCover();
        Due.all(27, "at most n (0 to 3)", Due.of(c.shortest(0, -1), c.shortest(1, -1), c.shortest(2, -1), c.shortest(3, -1)), 0, 0, 0, 0);
        Due.each(27, "OUTSIDE: n", Due.OUTSIDE, c.shortest(-1, -1), c.shortest(4, -1), c.shortest(Due.LEAST, 0), c.shortest(Due.MOST, 0));
        c = fiveTimesLessB();
        Due.each(27, "OUTSIDE ahead of NO", Due.OUTSIDE, c.shortest(-1, -1), c.shortest(4, -1), c.shortest(4, 9));
    }

    /** Three additions of b: as short as they can be. */
    private static CodeCover thrice() {
        return Made.row(0, 0, 0, 1, 1, 0, 0, 0, 1, 1, 0, 0, 0, 1, 1);
    }

    /** 5 a - b is not to be had in three. */
    private static CodeCover fiveTimesLessB() {
        return Made.row(5, 2, 0, 0, 1, 5, 2, 2, 0, 1, 0, 0, 2, 0, 1, 1, 0, 0, 1, 1);
    }

    private static void whichOfTheRow() {
        CodeCover c = thrice();
        Due.all(27, "the i-th", Due.of(c.shortest(3, -1), c.shortest(3, 0), c.shortest(3, 1), c.shortest(3, 2), c.shortest(3, 3)), 3, 1, 1,
                1, Due.NONE);
        Due.each(27, "NONE", Due.NONE, c.shortest(3, 4), c.shortest(3, Due.MOST), c.shortest(3, -2), c.shortest(3, Due.LEAST));
        Due.each(27, "NO: none of so many does", Due.NO, c.shortest(2, -1), c.shortest(1, -1), c.shortest(0, -1));
        Due.each(27, "NO ahead of NONE", Due.NO, c.shortest(2, 0), c.shortest(2, 2), c.shortest(0, 5), c.shortest(1, -2),
                c.shortest(0, Due.MOST));
        c = new CodeCover();
        Due.each(27, "NONE of an empty row", Due.NONE, c.shortest(0, 0), c.shortest(3, 0), c.shortest(3, 1), c.shortest(0, -2));
        c = fiveTimesLessB();
        Due.each(27, "NO with 3", Due.NO, c.shortest(3, -1), c.shortest(3, 0), c.shortest(3, 3), c.shortest(3, -2));
    }

    private static void fewest() {
        CodeCover c = Made.row(0, 0, 0, 1, 1);
        Due.all(27, "the fewest, though more are allowed", Due.of(c.shortest(3, -1), c.shortest(3, 0), c.shortest(3, 1), c.shortest(1, -1),
                c.shortest(0, -1)), 1, 1, Due.NONE, 1, Due.NO);
        c = Made.row(6, 0, 0, 0, 1, 6, 0, 0, 0, 1);
        Due.all(27, "a row that does nothing", Due.of(c.shortest(3, -1), c.shortest(0, -1)), 0, 0);
        c = Made.row(6, 1, 0, 0, 1, 6, 5, 1, 0, 1, 4, 2, 3, 5, 1);
        Due.all(27, "register 0 alone counts", Due.of(c.run(1, 1, 1), c.shortest(3, -1)), 14, 0);
        c = thrice();
        Due.all(27, "asked with fewer, then with more", Due.of(c.shortest(0, -1), c.shortest(3, -1), c.shortest(1, -1), c.shortest(2, -1),
                c.shortest(3, 2)), Due.NO, 3, Due.NO, Due.NO, 1);
        c = new CodeCover();
        for (int i = 0; i < 12; i++) {
            c.add(0, 0, 0, 1, 1);
        }
        Due.all(27, "twelve: 12 b is - 4 b", Due.of(c.run(0, 1, 0), c.shortest(3, -1), c.shortest(2, -1), c.shortest(3, 0),
                c.shortest(3, 1), c.shortest(3, 2)), 12, 3, Due.NO, 111, 111, 1001);
    }

    /** Register 0 is as it was, but for one pair of the corners, where its top bit turns. */
    private static CodeCover allButOnePair(int a, int b) {
        CodeCover c = new CodeCover();
        c.add(a == 15 ? 0 : 6, 2, 0, a == 15 ? 5 : 0, 1);
        c.add(b == 15 ? 0 : 6, 3, 1, b == 15 ? 5 : 0, 1);
        return Made.added(c, 2, 2, 2, 3, 1, 5, 3, 2, 0, 1, 2, 2, 2, 3, 1, 5, 3, 2, 0, 1, 5, 3, 3, 0, 1, 2, 2, 2, 3, 1, 4, 0, 0, 2, 1);
    }

    private static void all256Pairs() {
        for (int corner = 0; corner < 4; corner++) {
            int a = corner % 2 * 15;
            int b = corner / 2 * 15;
            CodeCover c = allButOnePair(a, b);
            int same = 0;
            for (int pair = 0; pair < 256; pair++) {
                same += c.run(pair % 16, pair / 16, 0) == pair % 16 ? 1 : 0;
            }
            Due.all(27, "the row is as meant", Due.of(same, c.run(a, b, 0)), 255, a ^ 8);
            Due.all(27, "for all 256 pairs", Due.of(c.shortest(0, -1), c.shortest(3, -1)), Due.NO, Due.NO);
            c.add(4, 0, 0, 2, 1);
            Due.is(27, "for all 256 pairs again", c.shortest(0, -1), 0);
        }
    }

    private static void firstOfSeveral() {
        Due.is(27, "by OP: twice a is a + a", Made.row(5, 0, 0, 0, 1).shortest(1, 0), 0);
        Due.is(27, "by OP: a copy is b + 0", Made.row(3, 0, 1, 1, 1).shortest(1, 0), 12);
        Due.is(27, "by the first source: a + b", Made.row(0, 0, 1, 0, 1).shortest(1, 0), 1);
        Due.is(27, "by OP: 0 is 0 + 0", Made.row(4, 0, 1, 1, 1).shortest(1, 0), 22);
        Due.is(27, "not has no other", Made.row(6, 0, 0, 0, 1).shortest(1, 0), 6000);
        CodeCover c = Made.row(6, 3, 4, 0, 1, 0, 0, 3, 4, 1);
        Due.all(27, "15 is 0 and not", Due.of(c.shortest(3, -1), c.shortest(3, 0)), 1, 6020);
        c = Made.row(0, 0, 0, 1, 1, 6, 0, 0, 0, 1);
        Due.all(27, "by the register that is set", Due.of(c.shortest(2, -1), c.shortest(2, 0), c.shortest(2, 1)), 2, 1, 6000);
        c = Made.row(1, 3, 4, 0, 1, 0, 0, 3, 4, 1);
        Due.all(27, "- a is 0 - a, with register 2", Due.of(c.shortest(1, -1), c.shortest(1, 0)), 1, 1020);
        c = Made.row(2, 3, 0, 1, 1, 3, 4, 0, 1, 1, 0, 0, 3, 4, 1);
        Due.all(27, "and, or, + is +", Due.of(c.shortest(3, -1), c.shortest(3, 0)), 1, 1);
    }

    private static void afterTheRowChanged() {
        CodeCover c = new CodeCover();
        Due.all(27, "anew with each INSTRUCTION", Due.of(c.shortest(3, -1), c.add(6, 0, 0, 0, 1), c.shortest(3, -1), c.add(6, 0, 0, 0, 1),
                c.shortest(3, -1)), 0, 0, 1, 1, 0);
        Due.all(27, "anew when THE ROW is emptied", Due.of(c.add(6, 0, 0, 0, 1), c.shortest(1, 0), c.drop(), c.shortest(1, 0),
                c.shortest(1, -1)), 2, 6000, 3, Due.NONE, 0);
        c.add(6, 0, 0, 0, 1);
        c.keep(0);
        Due.all(27, "anew when it is THINNED", Due.of(c.shortest(3, -1), c.thin(), c.shortest(3, -1)), 1, 1, 0);
        c = Made.row(0, 2, 0, 1, 1, 0, 3, 0, 1, 5, 0, 0, 3, 1, 1);
        Due.all(27, "the same when it is sorted", Due.of(c.shortest(3, -1), c.sort(), c.about(0, 4), c.shortest(3, -1), c.shortest(3, 0),
                c.shortest(3, 1)), 2, 6, 5, 2, 1, 1);
        Due.all(27, "to ask changes nothing", Due.of(c.told(3), c.run(1, 2, 0), c.run(1, 2, 3)), 3, 5, 3);
    }

    private static void toldAtTheEdges() {
        CodeCover c = Made.tree(Made.flat(30));
        for (int p = 0; p < 16; p++) {
            Made.laid(c, "V", 0, 0);
        }
        for (int i = 0; i < 12; i++) {
            c.add(0, 0, 0, 0, 1);
        }
        Made.said(c, Made.many("x", 60)).keep(63);
        Due.all(29, "all as full as can be", Due.of(c.told(0), c.told(1), c.told(2), c.told(3), c.told(4)), 60, 30, 16, 12, 63);
        Due.each(29, "OUTSIDE", Due.OUTSIDE, c.told(-1), c.told(5), c.told(6), c.told(Due.LEAST), c.told(Due.MOST));
        Due.all(29, "all emptied", Due.of(c.wipe(), c.clear(), c.drop(), c.keep(0), c.told(0), c.told(1), c.told(2), c.told(3), c.told(4)),
                60, 16, 12, 63, 0, 30, 0, 0, 0);
        CodeCover none = new CodeCover();
        Due.all(29, "of a new object", Due.of(none.told(0), none.told(1), none.told(2), none.told(3), none.told(4), none.told(5)), 0, 0, 0,
                0, 1, Due.OUTSIDE);
    }

    /** An object is used for at most 512 calls: the last of them is answered as the first. */
    private static void fiveHundredAndTwelveCalls() {
        CodeCover c = new CodeCover();
        for (int round = 0; round < 128; round++) {
            Due.all(27, "in the course of 512 calls", Due.of(c.add(6, 0, 0, 0, 1), c.shortest(3, -1), c.best(-1), c.drop()), 0, 1, 1, 1);
        }
        c = fiveTimesLessB();
        for (int call = 4; call < 512; call++) {
            Due.is(27, "the dearest call, 508 times", c.shortest(3, call % 4), Due.NO);
        }
        c = new CodeCover();
        for (int call = 0; call < 512; call += 2) {
            Due.all(29, "keep and told, 256 times", Due.of(c.keep(call % 64), c.told(4)), call == 0 ? 1 : (call - 2) % 64, call % 64);
        }
    }
}
