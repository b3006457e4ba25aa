/** Objects in the states that tests begin with. */
final class Made {
    private Made() { }

    static String many(String text, int times) {
        return text.repeat(times);
    }

    static CodeCover said(CodeCover c, String text) {
        for (int i = 0; i < text.length(); i++) {
            c.say(text.charAt(i));
        }
        return c;
    }

    static CodeCover pad(String text) {
        return said(new CodeCover(), text);
    }

    static int fault(String text) {
        return pad(text).fault();
    }

    static CodeCover tree(String text) {
        CodeCover c = pad(text);
        c.read();
        return c;
    }

    /** Its number, or why it was refused; the PAD is empty behind it. */
    static int laid(CodeCover c, String text, int head, int price) {
        c.wipe();
        int answer = said(c, text).pattern(head, price);
        c.wipe();
        return answer;
    }

    /** Five numbers for each INSTRUCTION: OP, the register that is set, two sources, WAIT. */
    static CodeCover row(int... numbers) {
        return added(new CodeCover(), numbers);
    }

    static CodeCover added(CodeCover c, int... numbers) {
        for (int i = 0; i + 4 < numbers.length; i += 5) {
            c.add(numbers[i], numbers[i + 1], numbers[i + 2], numbers[i + 3], numbers[i + 4]);
        }
        return c;
    }

    /** So many INSTRUCTIONS that all set register 1 from registers 2 and 3. */
    static CodeCover alike(int count) {
        CodeCover c = new CodeCover();
        for (int i = 0; i < count; i++) {
            c.add(0, 1, 2, 3, 1);
        }
        return c;
    }

    /** A TREE of just so many signs, as flat as can be. */
    static String flat(int signs) {
        if (signs == 1) {
            return "a";
        }
        if (signs == 2) {
            return "~b";
        }
        int first = (signs - 1) / 2;
        return "+" + flat(first) + flat(signs - 1 - first);
    }
}
