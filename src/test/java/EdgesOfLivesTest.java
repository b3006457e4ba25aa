/** Promises 20 to 25 and 28 where the document names an edge: what lives, SPILLED, THINNED. */
public final class EdgesOfLivesTest {
    public static void main(String[] args) {
        keptSets();
        weights();
        livesAtTheEdges();
        lastUses();
        untilTheEnd();
        places();
        crowds();
        spilledAtTheEdges();
        spilledEmpty();
        lightestSets();
        thinNothing();
        thinAll();
        thinFirst();
        Due.finish(20, 21, 22, 23, 24, 25, 28);
    }

    private static void keptSets() {
        CodeCover c = new CodeCover();
        Due.is(20, "1 at first", c.keep(0), 1);
        int before = 0;
        for (int set = 0; set <= 63; set++) {
            Due.is(20, "0 to 63: which they were", c.keep(set), before);
            before = set;
        }
        Due.each(20, "OUTSIDE", Due.OUTSIDE, c.keep(64), c.keep(-1), c.keep(65), c.keep(127), c.keep(Due.LEAST), c.keep(Due.MOST));
        Due.all(20, "OUTSIDE changes nothing", Due.of(c.told(4), c.keep(5), c.told(4)), 63, 63, 5);
        for (int kept = 0; kept < 6; kept++) {
            for (int r = 0; r < 6; r++) {
                CodeCover one = Made.row(0, r, 1, 1, 1);
                one.keep(1 << kept);
                Due.is(20, "a set of registers, as bits: " + kept + " and " + r, one.lives(0), kept == r ? 1 : 0);
            }
        }
    }

    private static void weights() {
        CodeCover c = Made.alike(12);
        for (int i = 0; i < 12; i++) {
            Due.all(21, "WEIGHTS (1 to 100; 1 at first)", Due.of(c.weigh(i, 100), c.weigh(i, 1), c.weigh(i, 20 + i)), 1, 100, 1);
        }
        Due.each(21, "OUTSIDE", Due.OUTSIDE, c.weigh(0, 0), c.weigh(0, 101), c.weigh(11, -1), c.weigh(0, Due.LEAST), c.weigh(11, Due.MOST));
        Due.each(21, "UNKNOWN", Due.UNKNOWN, c.weigh(12, 1), c.weigh(-1, 1), c.weigh(Due.LEAST, 1), c.weigh(Due.MOST, 1),
                new CodeCover().weigh(0, 1));
        Due.each(21, "UNKNOWN ahead of OUTSIDE", Due.UNKNOWN, c.weigh(12, 0), c.weigh(-1, 101), new CodeCover().weigh(0, 0));
        for (int i = 0; i < 12; i++) {
            Due.is(21, "refused: nothing changes", c.weigh(i, 1), 20 + i);
        }
    }

    private static void livesAtTheEdges() {
        CodeCover c = Made.alike(12);
        c.keep(2);
        Due.all(22, "the last of twelve alone", Due.of(c.lives(0), c.lives(10), c.lives(11)), 0, 0, 1);
        Due.each(22, "UNKNOWN", Due.UNKNOWN, c.lives(12), c.lives(-1), c.lives(Due.LEAST), c.lives(Due.MOST), new CodeCover().lives(0));
        c = Made.row(0, 5, 0, 0, 1);
        for (int i = 1; i < 12; i++) {
            c.add(0, 4, 0, 0, 1);
        }
        c.keep(32);
        Due.all(22, "from the first PLACE to the last", Due.of(c.lives(0), c.place(0), c.place(11)), 12, 1, 1);
        c.keep(0);
        Due.is(22, "no place, if neither", c.lives(0), 0);
    }

    /** How long the first VALUE lives, with nothing kept. */
    private static int firstLives(int... numbers) {
        CodeCover c = Made.row(numbers);
        c.keep(0);
        return c.lives(0);
    }

    private static void lastUses() {
        Due.is(22, "used by none", firstLives(0, 2, 0, 1, 1, 0, 3, 0, 1, 1), 0);
        Due.all(22, "used by the next: at the PLACE ahead of that", Due.of(firstLives(0, 2, 0, 1, 1, 0, 3, 2, 1, 1),
                firstLives(0, 2, 0, 1, 1, 0, 3, 1, 2, 1), firstLives(0, 2, 0, 1, 1, 6, 3, 2, 0, 1)), 1, 1, 1);
        Due.is(22, "till the last one that uses it", firstLives(0, 2, 0, 1, 1, 0, 3, 2, 1, 1, 0, 4, 0, 1, 1, 0, 5, 2, 1, 1, 0, 4, 0, 1, 1),
                3);
        Due.all(22, "the next one that sets its register may use it", Due.of(firstLives(0, 2, 0, 1, 1, 0, 2, 2, 1, 1),
                firstLives(0, 2, 0, 1, 1, 0, 3, 0, 1, 1, 5, 2, 2, 0, 1)), 1, 2);
        Due.all(22, "one behind that uses another VALUE", Due.of(firstLives(0, 2, 0, 1, 1, 0, 2, 0, 1, 1, 0, 3, 2, 2, 1),
                firstLives(0, 2, 0, 1, 1, 0, 2, 2, 1, 1, 0, 3, 2, 2, 1)), 0, 1);
        Due.all(22, "twice and not have no second source", Due.of(firstLives(0, 0, 1, 1, 1, 5, 3, 2, 0, 1),
                firstLives(0, 0, 1, 1, 1, 6, 3, 2, 0, 1), firstLives(0, 0, 1, 1, 1, 5, 3, 0, 0, 1)), 0, 0, 1);
        Due.is(22, "its own source is no use of it", firstLives(0, 2, 2, 2, 1), 0);
    }

    private static void untilTheEnd() {
        CodeCover c = Made.row(0, 2, 0, 1, 1, 0, 3, 2, 1, 1, 0, 4, 0, 1, 1);
        c.keep(4);
        Due.all(22, "KEPT, and none sets it later", Due.of(c.lives(0), c.lives(1), c.lives(2)), 3, 0, 0);
        c.add(0, 2, 0, 1, 1);
        Due.all(22, "KEPT, but one sets it later", Due.of(c.lives(0), c.lives(3)), 1, 1);
        c.keep(0);
        Due.all(22, "not KEPT", Due.of(c.lives(0), c.lives(3)), 1, 0);
        c.keep(63);
        Due.all(22, "all KEPT", Due.of(c.lives(0), c.lives(1), c.lives(2), c.lives(3)), 1, 3, 2, 1);
    }

    private static void places() {
        CodeCover c = Made.row(0, 2, 0, 1, 1, 0, 3, 2, 1, 1, 0, 0, 3, 3, 1);
        Due.all(23, "behind each INSTRUCTION", Due.of(c.place(0), c.place(1), c.place(2)), 1, 2, 4);
        Due.each(23, "UNKNOWN", Due.UNKNOWN, c.place(3), c.place(-1), c.place(12), c.place(Due.LEAST), c.place(Due.MOST),
                new CodeCover().place(0));
        c.keep(0);
        Due.is(23, "none lives at the end", c.place(2), 0);
        c = new CodeCover();
        for (int i = 0; i < 12; i++) {
            c.add(6, i % 6, 0, 0, 1);
        }
        c.keep(63);
        Due.all(23, "the last six of twelve, as bits", Due.of(c.place(11), c.place(5), c.lives(6)), 0xFC0, 1, 6);
    }

    private static void crowds() {
        CodeCover c = new CodeCover();
        Due.is(24, "0 without any", c.crowd(), 0);
        c.add(0, 3, 0, 0, 1);
        Due.is(24, "one that lives nowhere", c.crowd(), 0);
        c.keep(8);
        Due.is(24, "one that lives", c.crowd(), 1);
        c = new CodeCover();
        c.keep(63);
        for (int r = 0; r < 6; r++) {
            c.add(4, 5 - r, 0, 0, 1);
            Due.is(24, "as many as registers", c.crowd(), r + 1);
        }
        c.add(4, 5, 0, 0, 1);
        Due.is(24, "no more than registers", c.crowd(), 6);
        c = Made.row(0, 2, 0, 1, 1, 0, 3, 2, 1, 1, 0, 4, 3, 1, 1);
        Due.is(24, "used last by the next: not at the PLACE behind that", c.crowd(), 1);
        Due.is(24, "the most at one PLACE, which is neither first nor last",
                Made.row(0, 2, 0, 1, 1, 0, 3, 0, 1, 1, 0, 4, 2, 3, 1, 0, 0, 4, 4, 1).crowd(), 2);
        Due.all(24, "0 when THE ROW is emptied", Due.of(c.drop(), c.crowd()), 3, 0);
    }

    /** Six VALUES that all live at the last PLACE. */
    private static CodeCover sixLiving() {
        CodeCover c = Made.row(4, 0, 0, 0, 1, 4, 1, 1, 1, 1, 4, 2, 2, 2, 1, 4, 3, 3, 3, 1, 4, 4, 4, 4, 1, 4, 5, 5, 5, 1);
        c.keep(63);
        return c;
    }

    private static void spilledAtTheEdges() {
        CodeCover c = sixLiving();
        for (int k = 0; k <= 12; k++) {
            int gone = Math.max(0, 6 - k);
            Due.all(25, "k registers (0 to 12): " + k, Due.of(c.spilled(k, 0), c.spilled(k, 1)), (1 << gone) - 1, gone);
        }
        Due.each(25, "OUTSIDE: k", Due.OUTSIDE, c.spilled(-1, 0), c.spilled(13, 0), c.spilled(-1, 1), c.spilled(13, 1),
                c.spilled(Due.LEAST, 0), c.spilled(Due.MOST, 1));
        Due.each(25, "OUTSIDE: what", Due.OUTSIDE, c.spilled(0, -1), c.spilled(12, 2), c.spilled(3, Due.LEAST), c.spilled(3, Due.MOST));
        c = Made.row();
        for (int i = 0; i < 12; i++) {
            c.add(6, 1, 1, 0, 1);
            c.weigh(i, 100);
        }
        c.keep(2);
        Due.all(25, "all twelve, the greatest sum", Due.of(c.spilled(0, 0), c.spilled(0, 1), c.spilled(1, 0), c.spilled(1, 1)), 4095, 1200,
                0, 0);
    }

    private static void spilledEmpty() {
        CodeCover c = new CodeCover();
        Due.all(25, "an empty ROW", Due.of(c.spilled(0, 0), c.spilled(0, 1), c.spilled(12, 0), c.spilled(12, 1)), 0, 0, 0, 0);
        Due.each(25, "OUTSIDE with an empty ROW", Due.OUTSIDE, c.spilled(-1, 0), c.spilled(13, 0), c.spilled(0, 2));
        c = Made.alike(12);
        Due.all(25, "what lives nowhere needs no register", Due.of(c.spilled(0, 0), c.spilled(0, 1)), 0, 0);
    }

    private static void lightestSets() {
        CodeCover c = sixLiving();
        c.weigh(0, 2);
        c.weigh(1, 2);
        Due.all(25, "the least sum, of several the least as bits", Due.of(c.spilled(5, 0), c.spilled(4, 0), c.spilled(2, 0),
                c.spilled(1, 0), c.spilled(1, 1)), 4, 12, 60, 61, 6);
        // 0 lives along 1, then along 2: it alone, or both others.
        c = Made.row(0, 1, 0, 0, 1, 0, 2, 0, 0, 1, 0, 3, 2, 2, 1, 0, 0, 3, 1, 1);
        c.weigh(0, 2);
        Due.all(25, "alike in sum: the least as bits", Due.of(c.spilled(1, 0), c.spilled(1, 1)), 1, 2);
        c.weigh(0, 1);
        Due.all(25, "one lighter than two", Due.of(c.spilled(1, 0), c.spilled(1, 1)), 1, 1);
        c.weigh(0, 100);
        Due.all(25, "two lighter than one", Due.of(c.spilled(1, 0), c.spilled(1, 1)), 6, 2);
        c.weigh(1, 99);
        Due.all(25, "alike at the greatest WEIGHTS", Due.of(c.spilled(1, 0), c.spilled(1, 1)), 1, 100);
        c.weigh(1, 98);
        Due.all(25, "less by one", Due.of(c.spilled(1, 0), c.spilled(1, 1)), 6, 99);
        Due.all(25, "to ask changes nothing", Due.of(c.told(3), c.weigh(0, 1), c.weigh(1, 1), c.crowd()), 4, 100, 98, 2);
    }

    private static void thinNothing() {
        CodeCover c = new CodeCover();
        Due.all(28, "an empty ROW", Due.of(c.thin(), c.told(3)), 0, 0);
        c = sixLiving();
        Due.all(28, "all live", Due.of(c.thin(), c.told(3)), 0, 6);
        c = Made.row();
        for (int i = 0; i < 12; i++) {
            c.add(5, 0, 0, 0, 1);
        }
        Due.all(28, "twelve that live", Due.of(c.thin(), c.thin(), c.told(3)), 0, 0, 12);
        c.keep(2);
        Due.all(28, "twelve that go, from the last on", Due.of(c.lives(0), c.lives(11), c.thin(), c.told(3), c.thin()), 1, 0, 12, 0, 0);
    }

    private static void thinAll() {
        CodeCover c = Made.alike(12);
        Due.all(28, "twelve that go", Due.of(c.thin(), c.told(3), c.end(), c.crowd(), c.about(0, 0), c.thin()), 12, 0, 0, 0, Due.UNKNOWN,
                0);
        Due.all(28, "room again", Due.of(c.add(0, 0, 0, 0, 1), c.thin(), c.told(3)), 0, 0, 1);
        c = Made.alike(12);
        c.keep(2);
        Due.all(28, "eleven that go", Due.of(c.thin(), c.told(3), c.told(4)), 11, 1, 2);
    }

    private static void thinFirst() {
        // The third is used by the fourth alone, and that by none.
        CodeCover c = Made.row(0, 2, 0, 1, 1, 1, 0, 2, 1, 2, 2, 3, 0, 1, 3, 3, 4, 3, 1, 4);
        for (int i = 0; i < 4; i++) {
            c.weigh(i, 10 * (i + 1));
        }
        Due.all(28, "as long as there is one", Due.of(c.lives(2), c.lives(3), c.thin(), c.told(3)), 1, 0, 2, 2);
        Due.all(28, "those that stay are as before", Due.of(c.about(0, 0), c.about(0, 1), c.about(0, 4), c.about(1, 0), c.about(1, 1),
                c.about(1, 4), c.about(2, 0)), 0, 2, 1, 1, 0, 2, Due.UNKNOWN);
        Due.all(28, "WEIGHTS of the first ones", Due.of(c.weigh(0, 1), c.weigh(1, 1)), 10, 20);
        c = Made.row(2, 3, 0, 1, 3, 0, 2, 0, 1, 1, 3, 4, 3, 1, 4, 1, 0, 2, 1, 2);
        for (int i = 0; i < 4; i++) {
            c.weigh(i, 10 * (i + 1));
        }
        Due.all(28, "others move up", Due.of(c.thin(), c.about(0, 0), c.about(0, 1), c.about(0, 2), c.about(0, 3), c.about(0, 4),
                c.about(1, 0), c.about(1, 2)), 2, 0, 2, 0, 1, 1, 1, 2);
        Due.all(28, "WEIGHTS go with INSTRUCTIONS", Due.of(c.weigh(0, 1), c.weigh(1, 1)), 20, 40);
    }
}
