/** Promises 1 to 6 and 12 where the document names an edge: signs, faults, NODES, STORES. */
public final class EdgesOfTreesTest {
    private static final String LEAVES = "abcdefgh0123456789";
    private static final String WITH_PARTS = "+-*&~@";
    private static final String TWELVE = "~@~@~@~@~@~@";

    public static void main(String[] args) {
        aNewObject();
        objectsApart();
        codesOfSigns();
        sixtySigns();
        wiped();
        eachSignAlone();
        eachSignBehind();
        moreMustCome();
        depth();
        faultsOfAFullPad();
        readAndEmpty();
        thirtyNodes();
        readRefused();
        nodesAtTheEdges();
        needs();
        storesAtTheEdges();
        Due.finish(1, 2, 3, 4, 5, 6, 12);
    }

    private static void aNewObject() {
        CodeCover c = new CodeCover();
        Due.all(1, "PAD, THE ROW are empty", Due.of(c.told(0), c.told(3), c.wipe(), c.drop(), c.fault(), c.end(), c.about(0, 0)),
                0, 0, 0, 0, 0, 0, Due.UNKNOWN);
        Due.all(1, "there is no TREE", Due.of(c.told(1), c.node(0, 0), c.cover(0, 0, 0), c.code(-1, 0), c.stores(2)),
                0, Due.UNKNOWN, Due.UNKNOWN, Due.STATE, Due.STATE);
        Due.all(1, "no PATTERN", Due.of(c.told(2), c.price(0, 0), c.clear()), 0, Due.UNKNOWN, 0);
        Due.all(1, "1 (register 0) is KEPT", Due.of(c.told(4), c.keep(1)), 1, 1);
        for (int r = 0; r < 6; r++) {
            Due.is(1, "1 (register 0) is KEPT, not " + r, Made.row(0, r, 1, 1, 1).lives(0), r == 0 ? 1 : 0);
        }
    }

    private static void objectsApart() {
        CodeCover one = Made.tree("+ab");
        CodeCover other = new CodeCover();
        Made.laid(one, "V", 0, 3);
        Made.said(Made.added(one, 0, 0, 0, 1, 1), "xyz").keep(63);
        Due.all(1, "another object is as new", Due.of(other.told(0), other.told(1), other.told(2), other.told(3), other.told(4)), 0, 0, 0,
                0, 1);
        CodeCover late = new CodeCover();
        Due.all(1, "a later object is as new", Due.of(late.told(0), late.told(1), late.told(2), late.told(3), late.told(4)), 0, 0, 0, 0, 1);
    }

    private static void codesOfSigns() {
        CodeCover c = new CodeCover();
        for (int sign = 33; sign <= 126; sign++) {
            Due.all(2, "codes 33 to 126: " + sign, Due.of(c.say(sign), c.wipe()), 1, 1);
        }
        Due.each(2, "codes below 33", Due.OUTSIDE, c.say(32), c.say(31), c.say(0), c.say(-1), c.say(Due.LEAST));
        Due.each(2, "codes above 126", Due.OUTSIDE, c.say(127), c.say(128), c.say(255), c.say(Due.MOST));
        // 97 is a: no other number may be taken for it, whatever it is cut down to.
        Due.each(2, "codes that are cut down to a", Due.OUTSIDE, c.say(97 + 128), c.say(97 + 256), c.say(97 + 65536), c.say(97 - 256),
                c.say(97 + Due.LEAST), c.say(-97));
        Due.is(2, "OUTSIDE lays no sign", c.told(0), 0);
    }

    private static void sixtySigns() {
        CodeCover c = new CodeCover();
        for (int i = 1; i <= 60; i++) {
            Due.is(2, "a sign more: how many", c.say('a'), i);
        }
        Due.each(2, "60 at most", Due.FULL, c.say('a'), c.say(33), c.say(126));
        Due.each(2, "OUTSIDE ahead of FULL", Due.OUTSIDE, c.say(32), c.say(127), c.say(Due.MOST));
        Due.all(2, "full, then wiped", Due.of(c.told(0), c.wipe(), c.say('a')), 60, 60, 1);
    }

    private static void wiped() {
        CodeCover c = Made.tree("+ab");
        Made.laid(c, "V", 0, 3);
        Made.added(c, 0, 0, 0, 1, 1).keep(5);
        Due.all(3, "an empty PAD", Due.of(c.wipe(), c.wipe(), c.told(0)), 0, 0, 0);
        Due.all(3, "one sign", Due.of(c.say('~'), c.wipe(), c.told(0), c.wipe()), 1, 1, 0, 0);
        Due.all(3, "a full PAD", Due.of(Made.said(c, Made.many("b", 60)).wipe(), c.told(0), c.fault()), 60, 0, 0);
        Due.all(3, "the PAD alone is emptied", Due.of(c.told(1), c.told(2), c.told(3), c.told(4)), 3, 1, 1, 5);
    }

    private static boolean isIn(String signs, char sign) {
        return signs.indexOf(sign) >= 0;
    }

    private static void eachSignAlone() {
        for (char sign = 33; sign <= 126; sign++) {
            int alone = isIn(LEAVES, sign) ? Due.NONE : isIn(WITH_PARTS, sign) ? 1 : 0;
            Due.is(4, "a sign that can stand: " + sign, Made.fault("" + sign), alone);
            int second = isIn(LEAVES, sign) ? Due.NONE : isIn(WITH_PARTS, sign) ? 3 : 2;
            Due.is(4, "a sign that can stand as second PART: " + sign, Made.fault("&a" + sign), second);
            int within = isIn(LEAVES, sign) ? Due.NONE : 12;
            Due.is(4, "a sign that can stand within 12 others: " + sign, Made.fault(TWELVE + sign), within);
            int inEleven = isIn(LEAVES, sign) ? Due.NONE : isIn(WITH_PARTS, sign) ? 12 : 11;
            Due.is(4, "a sign that can stand within 11 others: " + sign, Made.fault(TWELVE.substring(1) + sign), inEleven);
        }
    }

    private static void eachSignBehind() {
        for (char sign = 33; sign <= 126; sign++) {
            Due.is(4, "no sign can stand behind a TREE: " + sign, Made.fault("a" + sign), 1);
            Due.is(4, "no sign can stand behind a TREE of three: " + sign, Made.fault("*a1" + sign), 3);
        }
        Due.all(4, "the first sign that can not", Due.of(Made.fault("ZZ"), Made.fault("+ZZ"), Made.fault("+aZZ"), Made.fault("+abZZ"),
                Made.fault("abc")),
                0, 1, 2, 3, 1);
    }

    private static void moreMustCome() {
        Due.is(4, "an empty PAD: their number, if more must come", new CodeCover().fault(), 0);
        for (String sign : new String[] {"+", "-", "*", "&"}) {
            Due.all(4, "two PARTS of " + sign, Due.of(Made.fault(sign), Made.fault(sign + "a"), Made.fault(sign + "ab"),
                    Made.fault(sign + "abc")), 1, 2, Due.NONE, 3);
        }
        for (String sign : new String[] {"~", "@"}) {
            Due.all(4, "one PART of " + sign, Due.of(Made.fault(sign), Made.fault(sign + "a"), Made.fault(sign + "ab")), 1, Due.NONE, 2);
        }
        CodeCover c = Made.pad("+a");
        Due.all(4, "fault changes nothing", Due.of(c.fault(), c.fault(), c.told(0), c.say('b'), c.fault(), c.fault(), c.told(0)),
                2, 2, 2, 3, Due.NONE, Due.NONE, 3);
    }

    private static void depth() {
        String pluses = Made.many("+", 12);
        Due.is(4, "within 12 others, of signs with two PARTS", Made.fault(pluses + Made.many("a", 13)), Due.NONE);
        Due.all(4, "one with PARTS can not within 12 others", Due.of(Made.fault(pluses + "+"), Made.fault(pluses + "a+"),
                Made.fault(pluses + "a@"), Made.fault(pluses + "aa+a+"), Made.fault(pluses + "aa+a@b")),
                12, 13, 13, 16, 16);
        Due.is(4, "within 11 others one with PARTS can", Made.fault(pluses + "aa+"), 15);
        String eleven = TWELVE.substring(1);
        Due.all(4, "the second PART is as deep as the first", Due.of(Made.fault("+" + eleven + "a" + eleven + "b"),
                Made.fault("+" + eleven + "a" + TWELVE + "b"), Made.fault("+" + TWELVE + "a")),
                Due.NONE, 24, 12);
        Due.all(5, "no TREE lies within more than 12 others", Due.of(Made.pad(TWELVE + "a").read(), Made.pad(TWELVE + "~a").read()), 13,
                Due.NO);
    }

    private static void faultsOfAFullPad() {
        String sixty = Made.flat(60);
        String open = sixty.substring(0, 59);
        Due.is(4, "a full PAD without FAULT", Made.fault(sixty), Due.NONE);
        Due.all(4, "a full PAD", Due.of(Made.fault(open), Made.fault(open + "Z"), Made.fault(open + "~"), Made.fault(Made.flat(59) + "a"),
                Made.fault(Made.many("~", 60))),
                59, 59, 60, 59, 12);
    }

    private static void readAndEmpty() {
        CodeCover c = Made.pad("7");
        Due.all(5, "the PAD is read, and empty then", Due.of(c.read(), c.told(0), c.told(1), c.fault(), c.wipe()), 1, 0, 1, 0, 0);
        Due.all(5, "an empty PAD has a FAULT", Due.of(c.read(), c.told(1), c.node(0, 0)), Due.NO, 1, '7');
        Due.all(5, "another TREE", Due.of(Made.said(c, "~h").read(), c.told(1), c.node(1, 0)), 2, 2, 'h');
        Due.all(5, "a smaller one", Due.of(Made.said(c, "0").read(), c.told(1), c.node(0, 0), c.node(0, 3), c.node(1, 0)), 1, 1, '0', 1,
                Due.UNKNOWN);
    }

    private static void thirtyNodes() {
        for (int signs = 1; signs <= 60; signs++) {
            CodeCover c = Made.pad(Made.flat(signs));
            Due.is(5, "30 NODES and no more: " + signs, c.read(), signs <= 30 ? signs : Due.FULL);
            Due.all(5, "what was read is off the PAD, what was refused is not: " + signs, Due.of(c.told(0), c.told(1)),
                    signs <= 30 ? 0 : signs, signs <= 30 ? signs : 0);
        }
    }

    private static void readRefused() {
        CodeCover c = Made.tree("-ab");
        Due.all(5, "NO: there is a FAULT; nothing changes", Due.of(Made.said(c, "+a").read(), c.read(), c.told(0), c.told(1), c.node(0, 0),
                c.node(2, 0)),
                Due.NO, Due.NO, 2, 3, '-', 'b');
        Due.all(5, "the PAD goes on from there", Due.of(c.say('c'), c.read(), c.node(0, 0), c.node(2, 0)), 3, 3, '+', 'c');
        Due.all(5, "FULL: more than 30 NODES; nothing changes", Due.of(Made.said(c, Made.flat(31)).read(), c.read(), c.told(0), c.told(1),
                c.node(2, 0), c.fault()),
                Due.FULL, Due.FULL, 31, 3, 'c', Due.NONE);
        Due.all(5, "a FAULT behind 31 signs", Due.of(c.say('a'), c.read(), c.told(0), c.told(1)), 32, Due.NO, 32, 3);
    }

    private static void nodesAtTheEdges() {
        CodeCover c = Made.tree("+~a@9");
        Due.all(6, "of the first NODE", Due.of(c.node(0, 0), c.node(0, 1), c.node(0, 2), c.node(0, 3), c.node(0, 4)), '+', -1, 2, 5, 2);
        Due.all(6, "of the last NODE", Due.of(c.node(4, 0), c.node(4, 1), c.node(4, 2), c.node(4, 3), c.node(4, 4)), '9', 3, 0, 1, 1);
        Due.all(6, "of one with one PART", Due.of(c.node(3, 0), c.node(3, 1), c.node(3, 2), c.node(3, 3), c.node(3, 4)), '@', 0, 1, 2, 1);
        Due.each(6, "UNKNOWN", Due.UNKNOWN, c.node(5, 0), c.node(-1, 0), c.node(30, 0), c.node(Due.LEAST, 0), c.node(Due.MOST, 0),
                new CodeCover().node(0, 0));
        Due.each(6, "OUTSIDE", Due.OUTSIDE, c.node(0, 5), c.node(0, -1), c.node(4, 5), c.node(0, Due.LEAST), c.node(0, Due.MOST));
        Due.each(6, "UNKNOWN ahead of OUTSIDE", Due.UNKNOWN, c.node(5, 5), c.node(-1, -1), new CodeCover().node(0, 5));
        c = Made.tree(Made.flat(30));
        Due.all(6, "the 30th NODE", Due.of(c.node(0, 3), c.node(29, 3), c.node(29, 2), c.node(30, 3)), 30, 1, 0, Due.UNKNOWN);
        c = Made.tree(TWELVE + "g");
        Due.all(6, "the deepest NODE", Due.of(c.node(12, 0), c.node(12, 1), c.node(12, 4), c.node(0, 3), c.node(0, 4)), 'g', 11, 1, 13, 1);
    }

    private static void needs() {
        String[] text = {"a", "5", "~a", "@~3", "+ab", "~*a1", "++abc", "+a+bc", "++ab+cd", "-~&ab@+cd", "+++ab+cd+ef", "*++ab+cd++ef+gh"};
        int[] need = {1, 1, 1, 1, 2, 2, 2, 2, 3, 3, 3, 4};
        for (int i = 0; i < text.length; i++) {
            Due.is(6, "NEED of " + text[i], Made.tree(text[i]).node(0, 4), need[i]);
        }
    }

    private static void storesAtTheEdges() {
        CodeCover c = Made.tree("*++ab+cd++ef+gh");
        Due.all(12, "k registers (2 to 8)", Due.of(c.stores(2), c.stores(3), c.stores(4), c.stores(5), c.stores(6), c.stores(7),
                c.stores(8)), 3, 1, 0, 0, 0, 0, 0);
        Due.each(12, "k below 2 or above 8", Due.OUTSIDE, c.stores(1), c.stores(0), c.stores(-1), c.stores(9), c.stores(Due.LEAST),
                c.stores(Due.MOST));
        CodeCover none = new CodeCover();
        Due.each(12, "STATE: there is no TREE", Due.STATE, none.stores(2), none.stores(8));
        Due.each(12, "OUTSIDE ahead of STATE", Due.OUTSIDE, none.stores(1), none.stores(9));
        Due.all(12, "of a leaf, of one PART, of two leaves", Due.of(Made.tree("a").stores(2), Made.tree("~a").stores(2),
                Made.tree("+ab").stores(2)), 0, 0, 0);
        Due.all(12, "both of which NEED k or more", Due.of(Made.tree("++abc").stores(2), Made.tree("+a+bc").stores(2),
                Made.tree("++ab+cd").stores(2)), 0, 0, 1);
        Due.is(12, "NEED counted up to k: one above another", Made.tree("+++ab+cd+ef").stores(2), 2);
        c = Made.tree(Made.flat(29));
        Due.all(12, "a TREE of 29", Due.of(c.stores(2), c.stores(3), c.stores(4)), storesOf(Made.flat(29), 2), storesOf(Made.flat(29), 3),
                storesOf(Made.flat(29), 4));
    }

    /** As the document counts: a NODE that must store leaves k behind, and no more. */
    private static int storesOf(String text, int k) {
        int[] place = {0};
        int[] stores = {0};
        countStores(text, place, k, stores);
        return stores[0];
    }

    private static int countStores(String text, int[] place, int k, int[] stores) {
        char sign = text.charAt(place[0]++);
        if (isIn(LEAVES, sign)) {
            return 1;
        }
        int first = countStores(text, place, k, stores);
        if (sign == '~' || sign == '@') {
            return first;
        }
        int second = countStores(text, place, k, stores);
        if (first >= k && second >= k) {
            stores[0]++;
        }
        return Math.min(k, first == second ? first + 1 : Math.max(first, second));
    }
}
