import java.nio.ByteBuffer;
import java.util.ArrayList;
import java.util.BitSet;
import java.util.HashSet;
import java.util.LinkedHashMap;
import java.util.List;
import java.util.Map;
import java.util.Set;
import java.util.TreeMap;

/**
 * Rows of at most 12 INSTRUCTIONS that leave register 0 as it is for all pairs but one. Two
 * ways to go on from a, b and 0 are looked for that are both 15 at this pair alone; five
 * INSTRUCTIONS make 8 of that 15, and 0 of all else, and one more turns the top bit by it.
 */
final class NearMisses {
    private static final int A = 0, B = 1, ZERO = 5;
    private static final int[] TURN = {5, 3, 2, 0, 2, 2, 2, 3, 5, 3, 2, 0, 5, 3, 3, 0, 2, 2, 2, 3, 4, 0, 0, 2};
    private static final int LONGEST = 4;
    private static final int ROOM = 12 - TURN.length / 4 - 1;

    /** How a register gets its words: the register it has them from at first, then OP and sources. */
    private record Way(byte[] words, int from, Way before, int op, boolean turned, int other) {
        int length() {
            return before == null ? 0 : before.length() + 1;
        }

        BitSet fifteens() {
            BitSet pairs = new BitSet();
            for (int pair = 0; pair < 256; pair++) {
                pairs.set(pair, words[pair] == 15);
            }
            return pairs;
        }

        /** Where its words stand, if its INSTRUCTIONS set that register. */
        int place(int register) {
            return before == null ? from : register;
        }

        void add(CodeCover c, int register) {
            if (before == null) {
                return;
            }
            before.add(c, register);
            int own = before.place(register);
            int with = other < 0 ? own : other;
            c.add(op, register, turned ? with : own, op >= 5 ? 0 : turned ? own : with, 1);
        }
    }

    private NearMisses() { }

    private static Way start(int register) {
        byte[] words = new byte[256];
        for (int pair = 0; pair < 256; pair++) {
            words[pair] = (byte) (register == A ? pair % 16 : register == B ? pair / 16 : 0);
        }
        return new Way(words, register, null, 0, false, 0);
    }

    /** other is -1 for the way's own register. */
    private static Way step(Way w, int op, boolean turned, int other) {
        byte[] with = other < 0 ? w.words : start(other).words;
        byte[] words = new byte[256];
        for (int pair = 0; pair < 256; pair++) {
            int one = turned ? with[pair] : w.words[pair];
            int two = turned ? w.words[pair] : with[pair];
            words[pair] = (byte) ShortestTest.word(op, one, two);
        }
        return new Way(words, w.from, w, op, turned, other);
    }

    private static List<Way> ways() {
        Set<ByteBuffer> seen = new HashSet<>();
        Map<BitSet, Way> kept = new LinkedHashMap<>();
        List<Way> level = new ArrayList<>(List.of(start(A), start(B), start(ZERO)));
        for (int length = 0; length <= LONGEST; length++) {
            List<Way> next = new ArrayList<>();
            for (Way w : level) {
                if (seen.add(ByteBuffer.wrap(w.words))) {
                    kept.putIfAbsent(w.fifteens(), w);
                    for (int op = 0; op < 7 && length < LONGEST; op++) {
                        for (int other : op < 5 ? new int[] {-1, A, B, ZERO} : new int[] {-1}) {
                            next.add(step(w, op, false, other));
                            next.add(step(w, op, op < 5, other));
                        }
                    }
                }
            }
            level = next;
        }
        return new ArrayList<>(kept.values());
    }

    /** For each pair for which there is one: a row that does nothing but there. */
    static Map<Integer, CodeCover> find() {
        Map<Integer, CodeCover> found = new TreeMap<>();
        List<Way> ways = ways();
        List<BitSet> fifteens = new ArrayList<>();
        for (Way w : ways) {
            fifteens.add(w.fifteens());
        }
        for (int i = 0; i < ways.size(); i++) {
            for (int k = 0; k < i; k++) {
                if (ways.get(i).length() + ways.get(k).length() > ROOM || !fifteens.get(i).intersects(fifteens.get(k))) {
                    continue;
                }
                BitSet both = (BitSet) fifteens.get(i).clone();
                both.and(fifteens.get(k));
                if (both.cardinality() == 1 && !found.containsKey(both.nextSetBit(0))) {
                    found.put(both.nextSetBit(0), rowOf(ways.get(i), ways.get(k)));
                }
            }
        }
        return found;
    }

    private static CodeCover rowOf(Way one, Way two) {
        CodeCover c = new CodeCover();
        one.add(c, 2);
        two.add(c, 3);
        c.add(2, 2, one.place(2), two.place(3), 1);
        for (int i = 0; i < TURN.length; i += 4) {
            c.add(TURN[i], TURN[i + 1], TURN[i + 2], TURN[i + 3], 1);
        }
        return c;
    }
}
