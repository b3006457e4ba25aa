/** Promises 7 to 11 where the document names an edge: PATTERNS, what they cover, CODE. */
public final class EdgesOfPatternsTest {
    private static final String NUMBERS = "0123456789";
    private static final String VARIABLES = "abcdefgh";

    public static void main(String[] args) {
        eachSignAsPattern();
        textsThatAreNone();
        twelveSigns();
        headsAndPrices();
        sixteenPatterns();
        pricesAtTheEdges();
        cleared();
        leavesFit();
        signsFit();
        patternsLongerThanTheTree();
        coverAtTheEdges();
        leastSums();
        chains();
        codeAtTheEdges();
        textsThatEnd();
        sixtyRowsOfCode();
        Due.finish(7, 8, 9, 10, 11);
    }

    private static boolean isIn(String signs, char sign) {
        return signs.indexOf(sign) >= 0;
    }

    private static void eachSignAsPattern() {
        for (char sign = 33; sign <= 126; sign++) {
            boolean leaf = isIn("KV", sign) || isIn(NUMBERS, sign);
            Due.is(7, "a text of one sign, to REGISTER: " + sign, Made.laid(new CodeCover(), "" + sign, 0, 0),
                    leaf || sign == 'A' ? 0 : Due.NO);
            Due.is(7, "a text of one sign, to ADDRESS: " + sign, Made.laid(new CodeCover(), "" + sign, 1, 0),
                    leaf || sign == 'R' ? 0 : Due.NO);
            boolean part = leaf || isIn("RA", sign);
            Due.is(7, "its leaves: " + sign, Made.laid(new CodeCover(), "+" + sign + "R", 0, 0), part ? 0 : Due.NO);
        }
    }

    private static void textsThatAreNone() {
        String[] none = {"", "+", "+R", "~", "+RRR", "RA", "AR", "RR", "KV", "a", "+aR", "~h", "R+", "1R"};
        for (String text : none) {
            CodeCover c = Made.pad(text);
            Due.all(7, "NO: the PAD is none: " + text, Due.of(c.pattern(0, 1), c.pattern(1, 1), c.told(0), c.told(2)), Due.NO, Due.NO,
                    text.length(), 0);
        }
        CodeCover c = Made.pad("R");
        Due.all(7, "R is no CHAIN to its own HEAD", Due.of(c.pattern(0, 5), c.told(0), c.pattern(1, 5), c.told(0), c.told(2)), Due.NO, 1, 0,
                0, 1);
        c = Made.pad("A");
        Due.all(7, "A is no CHAIN to its own HEAD", Due.of(c.pattern(1, 5), c.told(0), c.pattern(0, 5), c.told(0), c.told(2)), Due.NO, 1, 0,
                0, 1);
        Due.all(7, "within others R and A are of any HEAD", Due.of(Made.laid(c, "~R", 0, 0), Made.laid(c, "~A", 1, 0),
                Made.laid(c, "+RA", 0, 0), Made.laid(c, "+RA", 1, 0)), 1, 2, 3, 4);
    }

    private static void twelveSigns() {
        CodeCover c = new CodeCover();
        Due.all(7, "12 signs at most", Due.of(Made.laid(c, Made.many("~", 11) + "R", 0, 0), Made.laid(c, Made.many("~", 12) + "R", 0, 0)),
                0, Due.NO);
        String eleven = "+++++RRRRRR";
        Due.all(7, "12 signs at most, with two PARTS", Due.of(Made.laid(c, eleven, 1, 0), Made.laid(c, "~" + eleven, 1, 0),
                Made.laid(c, "@~" + eleven, 1, 0)), 1, 2, Due.NO);
        String sixty = "~" + Made.flat(59).replace('a', 'R').replace('b', 'K');
        Due.all(7, "a full PAD", Due.of(Made.said(c, sixty).pattern(0, 0), c.told(0), c.told(2)), Due.NO, 60, 3);
        // The whole text must be kept: the last sign decides here.
        CodeCover deep = Made.tree("&&&&&a1b1c1");
        Due.all(7, "the last sign of eleven counts", Due.of(Made.laid(deep, "&&&&&V1V1V2", 0, 1), deep.cover(0, 0, 0),
                Made.laid(deep, "&&&&&V1V1V1", 0, 1), deep.cover(0, 0, 1)), 0, Due.NONE, 1, 1);
        deep = Made.tree(Made.many("~", 11) + "7");
        Due.all(7, "the last sign of twelve counts", Due.of(Made.laid(deep, Made.many("~", 11) + "8", 0, 1), deep.cover(0, 0, 0),
                Made.laid(deep, Made.many("~", 11) + "7", 0, 1), deep.cover(0, 0, 1)), 0, Due.NONE, 1, 1);
    }

    private static void headsAndPrices() {
        CodeCover c = Made.pad("V");
        Due.each(7, "OUTSIDE: HEAD", Due.OUTSIDE, c.pattern(-1, 0), c.pattern(2, 0), c.pattern(Due.LEAST, 0), c.pattern(Due.MOST, 0));
        Due.each(7, "OUTSIDE: PRICE", Due.OUTSIDE, c.pattern(0, -1), c.pattern(0, 21), c.pattern(1, -1), c.pattern(1, 21),
                c.pattern(0, Due.LEAST), c.pattern(0, Due.MOST));
        Due.all(7, "OUTSIDE changes nothing", Due.of(c.told(0), c.told(2)), 1, 0);
        Due.each(7, "OUTSIDE ahead of NO", Due.OUTSIDE, new CodeCover().pattern(2, 0), new CodeCover().pattern(0, 21),
                Made.pad("R").pattern(0, -1));
        Due.all(7, "HEAD 0 and 1, PRICE 0 to 20", Due.of(c.pattern(0, 0), c.told(0), Made.laid(c, "V", 0, 20), Made.laid(c, "V", 1, 0),
                Made.laid(c, "V", 1, 20)), 0, 0, 1, 2, 3);
        Due.all(8, "PRICES as told", Due.of(c.price(0, 1), c.price(1, 1), c.price(2, 1), c.price(3, 1)), 0, 20, 0, 20);
    }

    private static void sixteenPatterns() {
        CodeCover c = new CodeCover();
        for (int p = 0; p < 16; p++) {
            Due.is(7, "numbered from 0 on", Made.laid(c, "V", p % 2, p), p);
        }
        Due.all(7, "16 at most", Due.of(Made.said(c, "V").pattern(0, 0), c.told(0), c.told(2)), Due.FULL, 1, 16);
        Due.each(7, "OUTSIDE ahead of FULL", Due.OUTSIDE, c.pattern(2, 0), c.pattern(0, 21), c.pattern(-1, -1));
        c.wipe();
        Due.each(7, "FULL ahead of NO", Due.FULL, c.pattern(0, 0), Made.said(c, "R").pattern(0, 0));
        for (int p = 0; p < 16; p++) {
            Due.is(7, "each is kept", c.price(p, 0), p);
        }
        Due.all(9, "room again when they went", Due.of(c.clear(), c.told(2), c.told(0), c.pattern(1, 0)), 16, 0, 1, 0);
    }

    private static void pricesAtTheEdges() {
        CodeCover c = Made.tree("a");
        Made.laid(c, "V", 0, 20);
        Made.laid(c, "V", 1, 7);
        Due.all(8, "which it was", Due.of(c.price(0, 0), c.price(0, 20), c.price(0, 20), c.price(0, 4), c.cover(0, 0, 0)), 20, 0, 20, 20,
                4);
        Due.each(8, "UNKNOWN", Due.UNKNOWN, c.price(2, 0), c.price(-1, 0), c.price(16, 0), c.price(Due.LEAST, 0), c.price(Due.MOST, 0));
        Due.each(8, "OUTSIDE", Due.OUTSIDE, c.price(0, -1), c.price(0, 21), c.price(1, Due.LEAST), c.price(1, Due.MOST));
        Due.each(8, "UNKNOWN ahead of OUTSIDE", Due.UNKNOWN, c.price(2, 21), c.price(-1, -1));
        Due.all(8, "a refused price changes nothing", Due.of(c.cover(0, 0, 0), c.cover(0, 1, 0), c.price(0, 4), c.price(1, 7)), 4, 7, 4, 7);
        c.clear();
        Due.each(8, "UNKNOWN when they went", Due.UNKNOWN, c.price(0, 0), c.price(1, 0));
    }

    private static void cleared() {
        CodeCover c = Made.tree("~a");
        Due.all(9, "without any", Due.of(c.clear(), c.clear(), c.told(2)), 0, 0, 0);
        Made.laid(c, "V", 0, 1);
        Made.laid(c, "~R", 0, 1);
        Made.said(Made.added(c, 0, 0, 0, 1, 1), "xy").keep(9);
        Due.all(9, "how many there were", Due.of(c.cover(0, 0, 0), c.clear(), c.clear(), c.cover(0, 0, 0), c.cover(1, 0, 1), c.code(-1, 0)),
                2, 2, 0, Due.NONE, Due.NONE, Due.NO);
        Due.all(9, "PATTERNS alone go", Due.of(c.told(0), c.told(1), c.told(2), c.told(3), c.told(4)), 2, 2, 0, 1, 9);
        Due.all(9, "numbers from 0 on again", Due.of(Made.laid(c, "V", 0, 3), c.cover(1, 0, 0), c.cover(1, 0, 1), c.cover(0, 0, 0)), 0, 3,
                0, Due.NONE);
    }

    private static void leavesFit() {
        for (char leaf : (NUMBERS + VARIABLES).toCharArray()) {
            CodeCover c = Made.tree("" + leaf);
            Made.laid(c, "K", 0, 1);
            Made.laid(c, "V", 1, 2);
            boolean number = isIn(NUMBERS, leaf);
            Due.all(10, "K (any NUMBER), V (any VARIABLE): " + leaf, Due.of(c.cover(0, 0, 0), c.cover(0, 1, 0)), number ? 1 : Due.NONE,
                    number ? Due.NONE : 2);
            for (char sign : NUMBERS.toCharArray()) {
                c.clear();
                Made.laid(c, "" + sign, 0, 3);
                Due.is(10, "0 to 9 (that NUMBER): " + sign + " on " + leaf, c.cover(0, 0, 0), sign == leaf ? 3 : Due.NONE);
            }
        }
        CodeCover c = Made.tree("+a4");
        Made.laid(c, "+VK", 0, 5);
        Due.all(10, "K, V need nothing", Due.of(c.cover(0, 0, 0), c.cover(1, 0, 0), c.cover(2, 0, 0)), 5, Due.NONE, Due.NONE);
    }

    private static void signsFit() {
        String[] trees = {"+ab", "-ab", "*ab", "&ab", "~a", "@a", "a", "4"};
        String[] texts = {"+VV", "-VV", "*VV", "&VV", "~V", "@V", "V", "K"};
        for (int i = 0; i < trees.length; i++) {
            for (int k = 0; k < texts.length; k++) {
                CodeCover c = Made.tree(trees[i]);
                Made.laid(c, texts[k], 0, 1);
                Due.is(10, "its signs are those of the NODE: " + texts[k] + " on " + trees[i], c.cover(0, 0, 0), i == k ? 1 : Due.NONE);
            }
            CodeCover c = Made.tree("~" + trees[i]);
            Made.laid(c, texts[i], 1, 2);
            Made.laid(c, "~A", 0, 1);
            Due.is(10, "where it has A any TREE stands: " + trees[i], c.cover(0, 0, 0), 3);
        }
    }

    private static void patternsLongerThanTheTree() {
        CodeCover c = Made.tree("+a+bc");
        Made.laid(c, "+V+V+VV", 0, 1);
        Made.laid(c, "+VV", 0, 2);
        Made.laid(c, "~V", 0, 0);
        Due.all(10, "a PATTERN that goes beyond the last NODE", Due.of(c.cover(0, 0, 0), c.cover(2, 0, 1), c.cover(4, 0, 0)), Due.NONE, 1,
                Due.NONE);
        c = Made.tree("~~a");
        Made.laid(c, "~~~~~~~~~~~R", 0, 0);
        Made.laid(c, "~~V", 0, 4);
        Due.all(10, "a deep PATTERN", Due.of(c.cover(0, 0, 1), c.cover(1, 0, 0), c.cover(2, 0, 0)), 1, Due.NONE, Due.NONE);
        c = Made.tree(Made.many("~", 12) + "a");
        Made.laid(c, "V", 1, 20);
        Made.laid(c, Made.many("~", 6) + "A", 1, 20);
        Due.all(10, "twice half of the deepest TREE", Due.of(c.cover(0, 1, 0), c.cover(6, 1, 0), c.cover(1, 1, 0), c.cover(0, 0, 0)), 60,
                40, Due.NONE, Due.NONE);
    }

    private static void coverAtTheEdges() {
        CodeCover c = Made.tree("~a");
        Made.laid(c, "V", 0, 2);
        Made.laid(c, "~R", 1, 3);
        Due.all(10, "each HEAD of the first and the last NODE", Due.of(c.cover(0, 0, 0), c.cover(0, 1, 0), c.cover(0, 1, 1),
                c.cover(1, 0, 0), c.cover(1, 0, 1), c.cover(1, 1, 0)),
                Due.NONE, 5, 1, 2, 0, Due.NONE);
        Due.each(10, "UNKNOWN", Due.UNKNOWN, c.cover(2, 0, 0), c.cover(-1, 0, 0), c.cover(30, 1, 1), c.cover(Due.LEAST, 0, 0),
                c.cover(Due.MOST, 0, 0), new CodeCover().cover(0, 0, 0));
        Due.each(10, "OUTSIDE: HEAD", Due.OUTSIDE, c.cover(0, -1, 0), c.cover(0, 2, 0), c.cover(0, Due.LEAST, 1), c.cover(0, Due.MOST, 1));
        Due.each(10, "OUTSIDE: what", Due.OUTSIDE, c.cover(0, 0, -1), c.cover(0, 1, 2), c.cover(0, 0, Due.LEAST), c.cover(0, 0, Due.MOST));
        Due.each(10, "UNKNOWN ahead of OUTSIDE", Due.UNKNOWN, c.cover(2, 2, 0), c.cover(-1, 0, 2), new CodeCover().cover(0, 2, 2));
        Due.each(10, "OUTSIDE ahead of NONE", Due.OUTSIDE, c.cover(1, 1, 2), c.cover(0, 0, -1));
    }

    private static void leastSums() {
        CodeCover c = Made.tree("~a");
        Made.laid(c, "V", 0, 0);
        Made.laid(c, "~R", 0, 0);
        Due.all(10, "for 0 in all", Due.of(c.cover(0, 0, 0), c.cover(0, 0, 1)), 0, 1);
        Made.laid(c, "~V", 0, 0);
        Due.is(10, "of several the PATTERN with the least number", c.cover(0, 0, 1), 1);
        c.price(1, 1);
        Due.all(10, "the least sum", Due.of(c.cover(0, 0, 0), c.cover(0, 0, 1)), 0, 2);
        c.price(2, 1);
        Due.is(10, "alike again", c.cover(0, 0, 1), 1);
        for (int p = 3; p < 16; p++) {
            Made.laid(c, "~V", 0, p == 15 ? 0 : 1);
        }
        Due.is(10, "the last of 16", c.cover(0, 0, 1), 15);
        Due.all(10, "another TREE", Due.of(Made.said(c, "b").read(), c.cover(0, 0, 1), c.cover(1, 0, 1)), 1, 0, Due.UNKNOWN);
    }

    private static void chains() {
        CodeCover c = Made.tree("a");
        Made.laid(c, "A", 0, 0);
        Made.laid(c, "R", 1, 0);
        Due.each(10, "CHAINS alone cover nothing", Due.NONE, c.cover(0, 0, 0), c.cover(0, 1, 0));
        Made.laid(c, "V", 0, 20);
        Due.all(10, "by a PATTERN that is no CHAIN: the way back is none", Due.of(c.cover(0, 0, 0), c.cover(0, 0, 1), c.cover(0, 1, 0),
                c.cover(0, 1, 1)), 20, 2, 20, 1);
        Made.laid(c, "V", 1, 20);
        Due.all(10, "of several the least number, a CHAIN too", Due.of(c.cover(0, 0, 1), c.cover(0, 1, 1)), 0, 1);
        Due.all(11, "CODE of a CHAIN: first what stands at it", Due.of(c.code(-1, 0), c.code(0, 0), c.code(1, 0), c.code(0, 1),
                c.code(1, 1), c.code(2, 0)), 2, 3, 0, 0, 0, Due.NONE);
        c.price(0, 1);
        Due.all(10, "a dearer CHAIN", Due.of(c.cover(0, 0, 1), c.cover(0, 0, 0), c.code(-1, 0)), 2, 20, 1);
        c = Made.tree("~a");
        Made.laid(c, "V", 1, 1);
        Made.laid(c, "~R", 0, 1);
        Due.is(10, "no CHAIN to what stands at R", c.cover(0, 0, 0), Due.NONE);
        Made.laid(c, "A", 0, 20);
        Due.all(10, "a CHAIN FITS every NODE", Due.of(c.cover(0, 0, 0), c.cover(1, 0, 0), c.cover(1, 0, 1), c.cover(0, 1, 0)), 22, 21, 2,
                Due.NONE);
        Made.laid(c, "A", 0, 20);
        Due.is(10, "of two CHAINS the least number", c.cover(1, 0, 1), 2);
        c.price(3, 19);
        Due.all(10, "of two CHAINS the least sum", Due.of(c.cover(1, 0, 1), c.cover(1, 0, 0)), 3, 20);
        codeOfChains();
    }

    private static void codeOfChains() {
        CodeCover c = Made.tree("@a");
        Made.laid(c, "@A", 0, 1);
        Made.laid(c, "R", 1, 1);
        Made.laid(c, "V", 0, 1);
        Due.all(11, "a CHAIN from REGISTER", Due.of(c.code(-1, 0), c.code(0, 0), c.code(1, 0), c.code(2, 0), c.code(3, 0)), 3, 2, 1, 0,
                Due.NONE);
        Due.all(11, "a CHAIN stands at the NODE itself", Due.of(c.code(0, 1), c.code(1, 1), c.code(2, 1)), 1, 1, 0);
        c = Made.tree("~a");
        Made.laid(c, "A", 0, 1);
        Made.laid(c, "~R", 1, 1);
        Made.laid(c, "V", 1, 1);
        Due.all(11, "a CHAIN from ADDRESS", Due.of(c.code(-1, 0), c.code(0, 0), c.code(1, 0), c.code(2, 0), c.code(3, 0), c.code(4, 0)), 4,
                2, 0, 1, 0, Due.NONE);
    }

    private static void codeAtTheEdges() {
        CodeCover c = new CodeCover();
        Due.each(11, "STATE: there is no TREE", Due.STATE, c.code(-1, 0), c.code(0, 0), c.code(0, 1), c.code(Due.MOST, 0),
                c.code(Due.LEAST, 1));
        Due.each(11, "OUTSIDE ahead of STATE", Due.OUTSIDE, c.code(-1, 2), c.code(0, -1));
        c = Made.tree("~a");
        Due.each(11, "NO: it can not be COVERED", Due.NO, c.code(-1, 0), c.code(0, 0), c.code(5, 1), c.code(-2, 0));
        Due.each(11, "OUTSIDE ahead of NO", Due.OUTSIDE, c.code(-1, 2), c.code(0, -1));
        Made.laid(c, "~R", 1, 1);
        Made.laid(c, "V", 0, 1);
        Due.all(11, "NO: to ADDRESS alone", Due.of(c.cover(0, 1, 0), c.cover(0, 0, 0), c.code(-1, 0), c.code(0, 0)), 2, Due.NONE, Due.NO,
                Due.NO);
        Made.laid(c, "~V", 0, 20);
        Due.all(11, "a single PATTERN", Due.of(c.code(-1, 0), c.code(-1, 1), c.code(0, 0), c.code(0, 1), c.code(1, 0), c.code(1, 1)), 1, 1,
                2, 0, Due.NONE, Due.NONE);
        Due.each(11, "NONE", Due.NONE, c.code(2, 0), c.code(60, 0), c.code(Due.MOST, 0), c.code(-2, 0), c.code(Due.LEAST, 1));
        Due.each(11, "OUTSIDE", Due.OUTSIDE, c.code(-1, -1), c.code(-1, 2), c.code(0, 2), c.code(0, -1), c.code(0, Due.LEAST),
                c.code(0, Due.MOST), c.code(9, 2));
        c.clear();
        Due.is(11, "NO when PATTERNS went", c.code(-1, 0), Due.NO);
        Made.laid(c, "K", 0, 1);
        Due.all(11, "another TREE", Due.of(Made.said(c, "5").read(), c.code(-1, 0), c.code(0, 0), c.code(0, 1), c.code(1, 0)), 1, 1, 0, 0,
                Due.NONE);
    }

    /** What stands behind a text, in the tree or of an older text, is none of its own. */
    private static void textsThatEnd() {
        CodeCover c = Made.tree("+" + Made.many("~", 11) + "ab");
        Made.laid(c, "+RR", 0, 1);
        Made.laid(c, Made.many("~", 11) + "V", 0, 2);
        Made.laid(c, "V", 0, 3);
        Due.all(10, "12 signs, and NODES behind them", Due.of(c.cover(0, 0, 0), c.cover(1, 0, 0), c.cover(13, 0, 0)), 6, 2, 3);
        Due.all(11, "12 signs, and NODES behind them", Due.of(c.code(-1, 0), c.code(0, 1), c.code(1, 1), c.code(2, 1)), 3, 1, 13, 0);
        c = Made.tree("-~ab");
        Made.laid(c, "&&RRR", 0, 1);
        Made.laid(c, "&RR", 0, 1);
        Made.laid(c, "+RR", 0, 1);
        c.clear();
        Made.laid(c, "~V", 0, 1);
        Made.laid(c, "V", 0, 1);
        Made.laid(c, "-RR", 0, 1);
        Due.all(10, "a shorter text in place of a longer one", Due.of(c.cover(0, 0, 0), c.cover(1, 0, 1), c.cover(3, 0, 1)), 3, 0, 1);
        Due.all(11, "a shorter text in place of a longer one",
                Due.of(c.code(-1, 0), c.code(0, 1), c.code(1, 1), c.code(2, 1), c.code(3, 1)), 3, 1, 3, 0, Due.NONE);
    }

    private static void sixtyRowsOfCode() {
        CodeCover c = Made.tree(Made.flat(30));
        Made.laid(c, "A", 0, 20);
        Made.laid(c, "+RR", 1, 20);
        Made.laid(c, "~R", 1, 20);
        Made.laid(c, "V", 1, 20);
        Due.all(10, "the greatest sum", Due.of(c.cover(0, 0, 0), c.cover(0, 1, 0)), 60 * 20, 59 * 20);
        Due.all(11, "the longest CODE", Due.of(c.code(-1, 0), c.code(59, 0), c.code(59, 1), c.code(58, 0), c.code(58, 1), c.code(60, 0)),
                60, 0, 0, 1, 0, Due.NONE);
        int chains = 0;
        for (int i = 0; i < 60; i += 2) {
            chains += c.code(i, 0) != 0 && c.code(i + 1, 0) == 0 && c.code(i, 1) == c.code(i + 1, 1) ? 1 : 0;
        }
        Due.is(11, "each PATTERN, then its CHAIN", chains, 30);
        c = Made.tree(Made.many("+", 12) + Made.many("a", 13));
        Made.laid(c, "+RR", 0, 1);
        Made.laid(c, "V", 0, 1);
        Due.all(11, "the deepest TREE: first what stands at R, from the first on", Due.of(c.code(-1, 0), c.code(0, 1), c.code(1, 1),
                c.code(2, 1), c.code(3, 1), c.code(24, 1)),
                25, 12, 13, 11, 14, 0);
    }
}
