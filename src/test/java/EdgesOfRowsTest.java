/** Promises 13 to 19 where the document names an edge: THE ROW, CYCLES, its orders. */
public final class EdgesOfRowsTest {
    private static final int[] FAR_OFF = {Due.LEAST, -1, Due.MOST};

    public static void main(String[] args) {
        numbersOfAdd();
        secondSourceOfOne();
        twelveInstructions();
        dropped();
        aboutAtTheEdges();
        cycles();
        ends();
        aheadAtTheEdges();
        whoStaysAhead();
        bestAtTheEdges();
        firstByNumbers();
        sortAtTheEdges();
        sortedAnew();
        Due.finish(13, 14, 15, 16, 17, 18, 19);
    }

    private static void numbersOfAdd() {
        CodeCover c = new CodeCover();
        int[] above = {7, 6, 6, 6, 6};
        for (int which = 0; which < 5; which++) {
            for (int wrong : new int[] {Due.LEAST, -1, above[which], 64, Due.MOST}) {
                int[] x = {0, 1, 2, 3, 4};
                x[which] = wrong;
                Due.is(13, "OUTSIDE: number " + which + " is " + wrong, c.add(x[0], x[1], x[2], x[3], x[4]), Due.OUTSIDE);
            }
        }
        Due.all(13, "WAIT (1 to 5)", Due.of(c.add(0, 0, 0, 0, 0), c.told(3), c.add(0, 0, 0, 0, 1), c.add(0, 0, 0, 0, 5), c.told(3)),
                Due.OUTSIDE, 0, 0, 1, 2);
        c.drop();
        for (int op = 0; op <= 6; op++) {
            Due.all(13, "OP (0 to 6)", Due.of(c.add(op, 0, 0, 0, 1), c.about(op, 0)), op, op);
        }
        c.drop();
        for (int r = 0; r <= 5; r++) {
            Due.all(13, "registers 0 to 5", Due.of(c.add(4, r, 5 - r, r, 1), c.about(r, 1), c.about(r, 2), c.about(r, 3)), r, r, 5 - r, r);
        }
        c.drop();
        for (int wait = 1; wait <= 5; wait++) {
            Due.all(13, "WAIT as told", Due.of(c.add(0, 0, 0, 0, wait), c.about(wait - 1, 4)), wait - 1, wait);
        }
    }

    private static void secondSourceOfOne() {
        CodeCover c = new CodeCover();
        for (int op = 0; op <= 6; op++) {
            for (int two = 1; two <= 5; two++) {
                c.drop();
                Due.is(13, "twice and not have no second source: it is told 0: " + op, c.add(op, 0, 0, two, 1), op < 5 ? 0 : Due.OUTSIDE);
                Due.is(13, "what was refused is not added: " + op, c.told(3), op < 5 ? 1 : 0);
            }
        }
        c.drop();
        Due.all(13, "told 0", Due.of(c.add(5, 3, 4, 0, 2), c.add(6, 4, 3, 0, 2), c.about(0, 3), c.about(1, 3)), 0, 1, 0, 0);
    }

    private static void twelveInstructions() {
        CodeCover c = new CodeCover();
        for (int i = 0; i < 12; i++) {
            Due.is(13, "12 at most, numbered from 0 on", c.add(i % 5, i % 6, 0, 1, 1 + i % 5), i);
        }
        Due.all(13, "FULL", Due.of(c.add(0, 0, 0, 0, 1), c.add(5, 0, 0, 0, 1), c.told(3)), Due.FULL, Due.FULL, 12);
        Due.each(13, "OUTSIDE ahead of FULL", Due.OUTSIDE, c.add(7, 0, 0, 0, 1), c.add(0, 6, 0, 0, 1), c.add(0, 0, 6, 0, 1),
                c.add(0, 0, 0, 6, 1), c.add(0, 0, 0, 0, 6), c.add(5, 0, 0, 1, 1));
        for (int i = 0; i < 12; i++) {
            Due.all(13, "those that were there stay", Due.of(c.about(i, 0), c.about(i, 1), c.about(i, 4)), i % 5, i % 6, 1 + i % 5);
        }
        Due.all(14, "room again", Due.of(c.drop(), c.add(6, 0, 0, 0, 1), c.told(3)), 12, 0, 1);
    }

    private static void dropped() {
        CodeCover c = Made.tree("+ab");
        Made.laid(c, "V", 0, 3);
        Made.said(c, "xyz").keep(12);
        Due.all(14, "an empty ROW", Due.of(c.drop(), c.drop()), 0, 0);
        c.add(0, 2, 0, 1, 5);
        c.weigh(0, 77);
        Due.all(14, "how many there were", Due.of(c.drop(), c.told(3), c.about(0, 0), c.lives(0), c.end(), c.crowd(), c.best(-1)), 1, 0,
                Due.UNKNOWN, Due.UNKNOWN, 0, 0, 0);
        Due.all(14, "THE ROW alone is emptied", Due.of(c.told(0), c.told(1), c.told(2), c.told(4)), 3, 3, 1, 12);
        Due.all(14, "a new one weighs 1", Due.of(c.add(0, 2, 0, 1, 1), c.weigh(0, 2)), 0, 1);
    }

    private static void aboutAtTheEdges() {
        CodeCover c = Made.row(1, 2, 3, 4, 5, 6, 5, 0, 0, 1);
        Due.all(15, "of the first", Due.of(c.about(0, 0), c.about(0, 1), c.about(0, 2), c.about(0, 3), c.about(0, 4), c.about(0, 5)), 1, 2,
                3, 4, 5, 0);
        Due.all(15, "of the last", Due.of(c.about(1, 0), c.about(1, 1), c.about(1, 2), c.about(1, 3), c.about(1, 4), c.about(1, 5)), 6, 5,
                0, 0, 1, 1);
        Due.each(15, "UNKNOWN", Due.UNKNOWN, c.about(2, 0), c.about(-1, 0), c.about(12, 5), c.about(Due.LEAST, 0), c.about(Due.MOST, 5),
                new CodeCover().about(0, 5));
        Due.each(15, "OUTSIDE", Due.OUTSIDE, c.about(0, -1), c.about(0, 6), c.about(1, 6), c.about(0, Due.LEAST), c.about(0, Due.MOST));
        Due.each(15, "UNKNOWN ahead of OUTSIDE", Due.UNKNOWN, c.about(2, 6), c.about(-1, -1), new CodeCover().about(0, 6));
    }

    private static int[] cyclesOf(CodeCover c) {
        int[] cycles = new int[c.told(3)];
        for (int i = 0; i < cycles.length; i++) {
            cycles[i] = c.about(i, 5);
        }
        return cycles;
    }

    private static void cycles() {
        Due.all(15, "one in each, the first in CYCLE 0", cyclesOf(Made.row(0, 2, 0, 1, 5, 0, 3, 0, 1, 5, 0, 4, 0, 1, 5)), 0, 1, 2);
        for (int wait = 1; wait <= 5; wait++) {
            Due.all(15, "WAIT CYCLES later, by the first source", cyclesOf(Made.row(0, 2, 0, 1, wait, 0, 3, 2, 1, 1)), 0, wait);
            Due.all(15, "WAIT CYCLES later, by the second source", cyclesOf(Made.row(0, 2, 0, 1, wait, 0, 3, 1, 2, 1)), 0, wait);
            Due.all(15, "one between takes a CYCLE", cyclesOf(Made.row(0, 2, 0, 1, wait, 0, 4, 0, 1, 1, 0, 3, 1, 2, 1)), 0, 1,
                    Math.max(2, wait));
        }
        Due.all(15, "which none between has set", cyclesOf(Made.row(0, 2, 0, 1, 5, 0, 2, 0, 1, 2, 0, 3, 2, 2, 1)), 0, 1, 3);
        Due.all(15, "one that sets its own source", cyclesOf(Made.row(0, 2, 2, 2, 4, 0, 2, 2, 2, 3, 0, 2, 2, 2, 1)), 0, 4, 7);
        Due.all(15, "to set a register again is no waiting", cyclesOf(Made.row(0, 2, 0, 1, 5, 0, 2, 0, 1, 5)), 0, 1);
        Due.all(15, "to set what was read is no waiting", cyclesOf(Made.row(0, 2, 0, 1, 5, 0, 0, 1, 1, 5)), 0, 1);
        Due.all(15, "the greater of both sources", cyclesOf(Made.row(0, 2, 0, 1, 3, 0, 3, 0, 1, 4, 0, 4, 2, 3, 1)), 0, 1, 5);
        Due.all(15, "twice has no second source", cyclesOf(Made.row(0, 0, 1, 1, 5, 5, 3, 2, 0, 1)), 0, 1);
        Due.all(15, "not has no second source", cyclesOf(Made.row(0, 0, 1, 1, 5, 6, 3, 2, 0, 1)), 0, 1);
        Due.all(15, "behind the one ahead of it", cyclesOf(Made.row(0, 2, 0, 1, 4, 0, 3, 2, 1, 1, 0, 4, 0, 1, 1)), 0, 4, 5);
    }

    private static void ends() {
        CodeCover c = new CodeCover();
        Due.is(16, "0 without any", c.end(), 0);
        Due.all(16, "one alone", Due.of(Made.row(0, 0, 0, 0, 1).end(), Made.row(0, 0, 0, 0, 5).end()), 1, 5);
        for (int i = 0; i < 12; i++) {
            c.add(0, 1, 1, 1, 5);
            Due.is(16, "each waits for the one ahead", c.end(), 5 * (i + 1));
        }
        Due.is(15, "the last of twelve", c.about(11, 5), 55);
        Due.all(16, "of each, not of the last alone", Due.of(Made.row(0, 2, 0, 1, 5, 0, 3, 0, 1, 1).end(),
                Made.row(0, 3, 0, 1, 1, 0, 2, 0, 1, 5).end()), 5, 6);
        Due.all(16, "0 when THE ROW is emptied", Due.of(c.drop(), c.end()), 12, 0);
    }

    private static void aheadAtTheEdges() {
        CodeCover c = Made.alike(12);
        Due.all(17, "the first and the last", Due.of(c.ahead(0, 11), c.ahead(0, 1), c.ahead(10, 11)), 1, 1, 1);
        Due.each(17, "OUTSIDE: i is not below k", Due.OUTSIDE, c.ahead(0, 0), c.ahead(11, 11), c.ahead(1, 0), c.ahead(11, 0));
        Due.each(17, "UNKNOWN: i", Due.UNKNOWN, c.ahead(-1, 0), c.ahead(Due.LEAST, 11), c.ahead(12, 11), c.ahead(Due.MOST, 3));
        Due.each(17, "UNKNOWN: k", Due.UNKNOWN, c.ahead(0, 12), c.ahead(0, Due.MOST), c.ahead(0, -1), c.ahead(3, Due.LEAST));
        Due.each(17, "UNKNOWN ahead of OUTSIDE", Due.UNKNOWN, c.ahead(12, 12), c.ahead(-1, -1), c.ahead(12, 0), c.ahead(0, -1),
                new CodeCover().ahead(0, 0));
        for (int i : FAR_OFF) {
            for (int k : FAR_OFF) {
                Due.is(17, "UNKNOWN: both", c.ahead(i, k), Due.UNKNOWN);
            }
        }
    }

    private static int aheadOf(int... numbers) {
        return Made.row(numbers).ahead(0, 1);
    }

    private static void whoStaysAhead() {
        Due.all(17, "the first sets a source", Due.of(aheadOf(0, 2, 0, 1, 1, 0, 3, 2, 1, 1), aheadOf(0, 2, 0, 1, 1, 0, 3, 1, 2, 1),
                aheadOf(0, 2, 0, 1, 1, 5, 3, 2, 0, 1)), 1, 1, 1);
        Due.all(17, "the second sets a source", Due.of(aheadOf(0, 2, 0, 1, 1, 0, 0, 3, 3, 1), aheadOf(0, 2, 0, 1, 1, 0, 1, 3, 3, 1),
                aheadOf(6, 2, 4, 0, 1, 0, 4, 3, 3, 1)), 1, 1, 1);
        Due.is(17, "both set one", aheadOf(0, 2, 0, 1, 1, 0, 2, 3, 4, 1), 1);
        Due.all(17, "both only use one", Due.of(aheadOf(0, 2, 0, 1, 1, 0, 3, 0, 1, 1), aheadOf(0, 2, 1, 1, 1, 0, 3, 1, 1, 1)), 0, 0);
        Due.is(17, "nothing in common", aheadOf(0, 2, 0, 1, 1, 0, 5, 3, 4, 1), 0);
        Due.all(17, "no second source: register 0 is not touched", Due.of(aheadOf(5, 2, 1, 0, 1, 0, 0, 3, 3, 1),
                aheadOf(6, 2, 1, 0, 1, 0, 0, 3, 3, 1), aheadOf(0, 0, 3, 3, 1, 5, 2, 1, 0, 1), aheadOf(0, 0, 3, 3, 1, 6, 2, 1, 0, 1)), 0, 0,
                0, 0);
    }

    private static void bestAtTheEdges() {
        CodeCover c = new CodeCover();
        Due.all(18, "an empty ROW", Due.of(c.best(-1), c.best(0), c.best(1), c.best(-2)), 0, Due.NONE, Due.NONE, Due.NONE);
        c.add(0, 1, 2, 3, 4);
        Due.all(18, "one alone", Due.of(c.best(-1), c.best(0), c.best(1)), 4, 0, Due.NONE);
        c = Made.alike(10);
        Due.all(18, "10 INSTRUCTIONS at most", Due.of(c.best(-1), c.best(0), c.best(9), c.best(10)), 10, 0, 9, Due.NONE);
        Due.each(18, "NONE", Due.NONE, c.best(11), c.best(12), c.best(Due.MOST), c.best(-2), c.best(Due.LEAST));
        for (int count = 11; count <= 12; count++) {
            c = Made.alike(count);
            Due.each(18, "STATE: more than 10", Due.STATE, c.best(-1), c.best(0), c.best(10), c.best(12), c.best(-2), c.best(Due.MOST),
                    c.best(Due.LEAST));
        }
        c.keep(2);
        Due.all(18, "ten again", Due.of(c.thin(), c.told(3), c.best(-1)), 11, 1, 1);
        c = Made.row();
        for (int i = 0; i < 10; i++) {
            c.add(0, 1, 1, 1, 5);
        }
        Due.all(18, "the greatest END", Due.of(c.best(-1), c.best(0), c.best(9)), 50, 0, 9);
    }

    private static int[] orderOf(CodeCover c) {
        int[] order = new int[c.told(3)];
        for (int i = 0; i < order.length; i++) {
            order[i] = c.best(i);
        }
        return order;
    }

    private static void firstByNumbers() {
        CodeCover c = new CodeCover();
        for (int i = 0; i < 10; i++) {
            c.add(0, 2 + i % 4, 0, 1, 1);
        }
        Due.all(18, "of the least END, the first by numbers", orderOf(c), 0, 1, 2, 3, 4, 5, 6, 7, 8, 9);
        // The last waits longest, so it goes first; the others stay as they are.
        c = Made.row(0, 2, 0, 1, 1, 0, 3, 0, 1, 1, 0, 4, 0, 1, 1, 0, 5, 0, 1, 5);
        Due.all(18, "the least END", Due.of(c.end(), c.best(-1)), 8, 5);
        Due.all(18, "the last one first", orderOf(c), 3, 0, 1, 2);
        c = Made.row(0, 2, 0, 1, 1, 0, 3, 0, 1, 1, 0, 4, 0, 1, 1, 0, 5, 0, 1, 3);
        Due.is(18, "no sooner than it must", c.best(-1), 4);
        Due.all(18, "no sooner than it must, by numbers", orderOf(c), 0, 3, 1, 2);
        // What must stay ahead stays, though another order would wait less.
        c = Made.row(0, 2, 0, 1, 1, 0, 0, 3, 3, 5);
        Due.is(18, "one that must stay ahead", c.best(-1), 6);
        Due.all(18, "one that must stay ahead, by numbers", orderOf(c), 0, 1);
        anotherRow();
    }

    /** THE BEST ORDER is of THE ROW as it is now, whatever was asked for before. */
    private static void anotherRow() {
        CodeCover c = Made.row(0, 2, 0, 1, 5, 0, 3, 2, 2, 5, 0, 4, 3, 3, 5, 0, 5, 4, 4, 5);
        Due.is(18, "each waits", c.best(-1), 20);
        Due.all(18, "each waits, by numbers", orderOf(c), 0, 1, 2, 3);
        c.drop();
        Made.added(c, 0, 2, 0, 1, 1, 0, 3, 0, 1, 2, 0, 4, 0, 1, 3, 0, 5, 0, 1, 4);
        Due.is(18, "another ROW, in which none waits", c.best(-1), 4);
        Due.all(18, "another ROW, by numbers", orderOf(c), 3, 2, 1, 0);
        // The last goes in CYCLE 4, so 1 and 2 at most in 2, and 3 at most in 1.
        c.add(0, 0, 2, 3, 1);
        Due.is(18, "one more, that waits for two", c.best(-1), 5);
        Due.all(18, "one more, by numbers", orderOf(c), 1, 3, 2, 0, 4);
    }

    private static void sortAtTheEdges() {
        CodeCover c = new CodeCover();
        Due.all(19, "an empty ROW", Due.of(c.sort(), c.told(3)), 0, 0);
        c.add(0, 1, 2, 3, 4);
        Due.all(19, "one alone", Due.of(c.sort(), c.told(3), c.about(0, 4)), 4, 1, 4);
        for (int count = 10; count <= 12; count++) {
            c = new CodeCover();
            for (int i = 0; i < count; i++) {
                c.add(0, 1 + i % 5, 0, 0, i == count - 1 ? 5 : 1);
                c.weigh(i, i + 1);
            }
            Due.is(19, "STATE: more than 10: " + count, c.sort(), count <= 10 ? 10 : Due.STATE);
            for (int i = 0; i < count && count > 10; i++) {
                Due.all(19, "refused: nothing moves", Due.of(c.about(i, 4), c.weigh(i, 1)), i == count - 1 ? 5 : 1, i + 1);
            }
            Due.is(19, "none goes", c.told(3), count);
        }
    }

    private static void sortedAnew() {
        CodeCover c = Made.row(0, 2, 0, 1, 1, 1, 3, 0, 1, 2, 2, 4, 0, 1, 3, 3, 5, 0, 1, 5);
        c.keep(60);
        for (int i = 0; i < 4; i++) {
            c.weigh(i, 10 * (i + 1));
        }
        Due.all(19, "END", Due.of(c.end(), c.best(-1), c.sort(), c.end(), c.best(-1)), 8, 5, 5, 5, 5);
        Due.all(19, "whole INSTRUCTIONS move", Due.of(c.about(0, 0), c.about(0, 1), c.about(0, 2), c.about(0, 3), c.about(0, 4),
                c.about(3, 0), c.about(3, 1)), 3, 5, 0, 1, 5, 1, 3);
        Due.all(19, "numbers are those of the new order", orderOf(c), 0, 1, 2, 3);
        Due.all(19, "sorted twice", Due.of(c.sort(), c.about(0, 4), c.told(3), c.told(4)), 5, 5, 4, 60);
        Due.all(19, "WEIGHTS go with INSTRUCTIONS", Due.of(c.weigh(0, 1), c.weigh(1, 1), c.weigh(2, 1), c.weigh(3, 1)), 40, 10, 30, 20);
    }
}
