import java.util.ArrayList;
import java.util.List;

/**
 * "Calls that are refused answer, the first of these that fits .. They change nothing."
 * Each refusal that the document names is made on an object, and all that can be asked of
 * that one afterwards is held against another one on which it was not made.
 */
public final class RefusalsTest {
    private interface Call {
        int on(CodeCover c);
    }

    private interface State {
        CodeCover make();
    }

    public static void main(String[] args) {
        ofANewObject();
        ofTrees();
        ofRows();
        whenFull();
        questions();
        Due.finish(2, 5, 6, 7, 8, 10, 11, 12, 13, 15, 17, 18, 19, 20, 21, 22, 23, 25, 26, 27, 29);
    }

    /** An open text on the PAD, a TREE that can not be COVERED, three INSTRUCTIONS. */
    private static CodeCover begun() {
        CodeCover c = Made.tree("~a");
        Made.laid(c, "V", 0, 2);
        Made.laid(c, "K", 1, 3);
        Made.added(c, 0, 2, 0, 1, 4, 0, 0, 2, 1, 1, 6, 3, 0, 0, 2);
        for (int i = 0; i < 3; i++) {
            c.weigh(i, 7 + i);
        }
        c.keep(9);
        return Made.said(c, "+a");
    }

    private static CodeCover full() {
        CodeCover c = Made.tree(Made.flat(30));
        String[] texts = {"V", "+RR", "~R", "R"};
        for (int p = 0; p < 16; p++) {
            Made.laid(c, texts[p % 4], p % 4 == 3 ? 1 : 0, p);
        }
        for (int i = 0; i < 12; i++) {
            c.add(i % 5, i % 6, (i + 1) % 6, (i + 2) % 6, 1 + i % 5);
            c.weigh(i, 30 + i);
        }
        c.keep(63);
        return Made.said(c, Made.flat(60));
    }

    /** All that an object tells; it is spent then. Together with its making under 512 calls. */
    private static List<Integer> all(CodeCover c) {
        List<Integer> told = new ArrayList<>();
        for (int what = 0; what < 5; what++) {
            told.add(c.told(what));
        }
        ofTree(c, told);
        ofRow(c, told);
        for (int p = 0; p < 17; p++) {
            told.add(c.price(p, 1));
        }
        told.add(c.keep(0));
        told.add(c.fault());
        // What stands on the PAD shows when it is read; an open text is closed first.
        c.say('b');
        told.add(c.read());
        for (int i = 0; i < 4; i++) {
            told.add(c.node(i, 0));
        }
        told.add(c.wipe());
        return told;
    }

    private static void ofTree(CodeCover c, List<Integer> told) {
        for (int i = 0; i < 30; i++) {
            told.add(c.node(i, 0));
            told.add(c.node(i, 4));
            told.add(c.cover(i, 0, 0));
            told.add(c.cover(i, 1, 1));
        }
        told.add(c.code(-1, 0));
        told.add(c.code(0, 1));
        told.add(c.stores(2));
    }

    private static void ofRow(CodeCover c, List<Integer> told) {
        for (int i = 0; i < 12; i++) {
            for (int what = 0; what < 6; what++) {
                told.add(c.about(i, what));
            }
            told.add(c.place(i));
        }
        told.add(c.best(-1));
        told.add(c.spilled(1, 0));
        told.add(c.run(6, 9, 0));
        told.add(c.shortest(1, -1));
        for (int i = 0; i < 13; i++) {
            told.add(c.weigh(i, 1));
        }
    }

    private static void refused(int promise, int want, State state, String name, Call call) {
        CodeCover c = state.make();
        Due.is(promise, name, call.on(c), want);
        changesNothing(promise, c, state, name);
    }

    private static void changesNothing(int promise, CodeCover asked, State state, String name) {
        List<Integer> got = all(asked);
        List<Integer> want = all(state.make());
        for (int i = 0; i < want.size(); i++) {
            if (!got.get(i).equals(want.get(i))) {
                Due.is(promise, name + " changes nothing (answer " + i + ")", got.get(i), want.get(i));
            }
        }
    }

    private static void ofANewObject() {
        State s = CodeCover::new;
        refused(2, Due.OUTSIDE, s, "say(32)", c -> c.say(32));
        refused(5, Due.NO, s, "read of an empty PAD", CodeCover::read);
        refused(6, Due.UNKNOWN, s, "node(0, 0)", c -> c.node(0, 0));
        refused(7, Due.NO, s, "pattern of an empty PAD", c -> c.pattern(0, 0));
        refused(7, Due.OUTSIDE, s, "pattern(2, 0)", c -> c.pattern(2, 0));
        refused(8, Due.UNKNOWN, s, "price(0, 0)", c -> c.price(0, 0));
        refused(10, Due.UNKNOWN, s, "cover(0, 0, 0)", c -> c.cover(0, 0, 0));
        refused(11, Due.OUTSIDE, s, "code(0, 2)", c -> c.code(0, 2));
        refused(11, Due.STATE, s, "code(-1, 0)", c -> c.code(-1, 0));
        refused(12, Due.OUTSIDE, s, "stores(9)", c -> c.stores(9));
        refused(12, Due.STATE, s, "stores(2)", c -> c.stores(2));
        refused(15, Due.UNKNOWN, s, "about(0, 0)", c -> c.about(0, 0));
        refused(17, Due.UNKNOWN, s, "ahead(0, 1)", c -> c.ahead(0, 1));
        refused(18, Due.NONE, s, "best(0)", c -> c.best(0));
        refused(21, Due.UNKNOWN, s, "weigh(0, 1)", c -> c.weigh(0, 1));
        refused(22, Due.UNKNOWN, s, "lives(0)", c -> c.lives(0));
        refused(23, Due.UNKNOWN, s, "place(0)", c -> c.place(0));
        refused(27, Due.NONE, s, "shortest(0, 0)", c -> c.shortest(0, 0));
    }

    private static void ofTrees() {
        State s = RefusalsTest::begun;
        refused(2, Due.OUTSIDE, s, "say(127)", c -> c.say(127));
        refused(5, Due.NO, s, "read of an open text", CodeCover::read);
        refused(6, Due.UNKNOWN, s, "node(2, 0)", c -> c.node(2, 0));
        refused(6, Due.OUTSIDE, s, "node(0, 5)", c -> c.node(0, 5));
        refused(7, Due.OUTSIDE, s, "pattern(-1, 0)", c -> c.pattern(-1, 0));
        refused(7, Due.OUTSIDE, s, "pattern(0, 21)", c -> c.pattern(0, 21));
        refused(7, Due.NO, s, "pattern of an open text", c -> c.pattern(0, 1));
        refused(8, Due.UNKNOWN, s, "price(2, 0)", c -> c.price(2, 0));
        refused(8, Due.OUTSIDE, s, "price(0, 21)", c -> c.price(0, 21));
        refused(8, Due.OUTSIDE, s, "price(1, -1)", c -> c.price(1, -1));
        refused(10, Due.UNKNOWN, s, "cover(2, 0, 0)", c -> c.cover(2, 0, 0));
        refused(10, Due.OUTSIDE, s, "cover(0, 2, 0)", c -> c.cover(0, 2, 0));
        refused(10, Due.OUTSIDE, s, "cover(0, 0, 2)", c -> c.cover(0, 0, 2));
        refused(10, Due.NONE, s, "cover(0, 0, 0)", c -> c.cover(0, 0, 0));
        refused(11, Due.OUTSIDE, s, "code(-1, -1)", c -> c.code(-1, -1));
        refused(11, Due.NO, s, "code(0, 0)", c -> c.code(0, 0));
        refused(12, Due.OUTSIDE, s, "stores(1)", c -> c.stores(1));
        refused(29, Due.OUTSIDE, s, "told(5)", c -> c.told(5));
    }

    private static void ofRows() {
        State s = RefusalsTest::begun;
        refused(13, Due.OUTSIDE, s, "add(7, 0, 0, 0, 1)", c -> c.add(7, 0, 0, 0, 1));
        refused(13, Due.OUTSIDE, s, "add(0, 6, 0, 0, 1)", c -> c.add(0, 6, 0, 0, 1));
        refused(13, Due.OUTSIDE, s, "add(0, 0, 6, 0, 1)", c -> c.add(0, 0, 6, 0, 1));
        refused(13, Due.OUTSIDE, s, "add(0, 0, 0, 6, 1)", c -> c.add(0, 0, 0, 6, 1));
        refused(13, Due.OUTSIDE, s, "add(0, 0, 0, 0, 6)", c -> c.add(0, 0, 0, 0, 6));
        refused(13, Due.OUTSIDE, s, "add(6, 0, 0, 1, 1)", c -> c.add(6, 0, 0, 1, 1));
        refused(15, Due.UNKNOWN, s, "about(3, 0)", c -> c.about(3, 0));
        refused(15, Due.OUTSIDE, s, "about(0, 6)", c -> c.about(0, 6));
        refused(17, Due.UNKNOWN, s, "ahead(0, 3)", c -> c.ahead(0, 3));
        refused(17, Due.OUTSIDE, s, "ahead(1, 1)", c -> c.ahead(1, 1));
        refused(18, Due.NONE, s, "best(3)", c -> c.best(3));
        refused(20, Due.OUTSIDE, s, "keep(64)", c -> c.keep(64));
        refused(20, Due.OUTSIDE, s, "keep(-1)", c -> c.keep(-1));
        refused(21, Due.UNKNOWN, s, "weigh(3, 1)", c -> c.weigh(3, 1));
        refused(21, Due.OUTSIDE, s, "weigh(0, 0)", c -> c.weigh(0, 0));
        refused(21, Due.OUTSIDE, s, "weigh(2, 101)", c -> c.weigh(2, 101));
        refused(22, Due.UNKNOWN, s, "lives(3)", c -> c.lives(3));
        refused(23, Due.UNKNOWN, s, "place(3)", c -> c.place(3));
        refused(25, Due.OUTSIDE, s, "spilled(13, 0)", c -> c.spilled(13, 0));
        refused(25, Due.OUTSIDE, s, "spilled(0, 2)", c -> c.spilled(0, 2));
        refused(26, Due.OUTSIDE, s, "run(16, 0, 0)", c -> c.run(16, 0, 0));
        refused(26, Due.OUTSIDE, s, "run(0, -1, 0)", c -> c.run(0, -1, 0));
        refused(26, Due.OUTSIDE, s, "run(0, 0, 6)", c -> c.run(0, 0, 6));
        refused(27, Due.OUTSIDE, s, "shortest(4, -1)", c -> c.shortest(4, -1));
        refused(27, Due.NO, s, "shortest(0, -1)", c -> c.shortest(0, -1));
        refused(27, Due.NO, s, "shortest(0, 0)", c -> c.shortest(0, 0));
    }

    private static void whenFull() {
        State s = RefusalsTest::full;
        refused(2, Due.FULL, s, "say('a') on a full PAD", c -> c.say('a'));
        refused(2, Due.OUTSIDE, s, "say(32) on a full PAD", c -> c.say(32));
        refused(5, Due.FULL, s, "read of 60 NODES", CodeCover::read);
        refused(6, Due.UNKNOWN, s, "node(30, 0)", c -> c.node(30, 0));
        refused(7, Due.FULL, s, "a 17th PATTERN", c -> c.pattern(0, 0));
        refused(7, Due.OUTSIDE, s, "a 17th PATTERN to HEAD 2", c -> c.pattern(2, 0));
        refused(8, Due.UNKNOWN, s, "price(16, 0)", c -> c.price(16, 0));
        refused(13, Due.FULL, s, "a 13th INSTRUCTION", c -> c.add(0, 0, 0, 0, 1));
        refused(13, Due.OUTSIDE, s, "a 13th INSTRUCTION with OP 7", c -> c.add(7, 0, 0, 0, 1));
        refused(15, Due.UNKNOWN, s, "about(12, 0)", c -> c.about(12, 0));
        refused(18, Due.STATE, s, "best of twelve", c -> c.best(-1));
        refused(19, Due.STATE, s, "sort of twelve", CodeCover::sort);
        refused(21, Due.UNKNOWN, s, "weigh(12, 1)", c -> c.weigh(12, 1));
        refused(22, Due.UNKNOWN, s, "lives(12)", c -> c.lives(12));
        refused(23, Due.UNKNOWN, s, "place(12)", c -> c.place(12));
        refused(27, Due.NO, s, "shortest(0, 0) of twelve", c -> c.shortest(0, 0));
    }

    /** What only asks changes nothing either. */
    private static void questions() {
        for (State s : new State[] {CodeCover::new, RefusalsTest::begun, RefusalsTest::full}) {
            asks(s, 4, "fault", CodeCover::fault);
            asks(s, 6, "node", c -> c.node(0, 4));
            asks(s, 10, "cover", c -> c.cover(0, 0, 1));
            asks(s, 11, "code", c -> c.code(0, 0));
            asks(s, 12, "stores", c -> c.stores(2));
            asks(s, 15, "about", c -> c.about(0, 5));
            asks(s, 16, "end", CodeCover::end);
            asks(s, 17, "ahead", c -> c.ahead(0, 1));
            asks(s, 18, "best", c -> c.best(0));
            asks(s, 22, "lives", c -> c.lives(0));
            asks(s, 23, "place", c -> c.place(0));
            asks(s, 24, "crowd", CodeCover::crowd);
            asks(s, 25, "spilled", c -> c.spilled(0, 0));
            asks(s, 26, "run", c -> c.run(1, 2, 0));
            asks(s, 27, "shortest", c -> c.shortest(2, 0));
            asks(s, 29, "told", c -> c.told(0));
        }
    }

    private static void asks(State state, int promise, String name, Call call) {
        CodeCover c = state.make();
        int first = call.on(c);
        Due.is(promise, name + " asked twice", call.on(c), first);
        changesNothing(promise, c, state, name);
    }
}
