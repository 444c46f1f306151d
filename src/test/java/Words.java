/** Makes instructions out of their parts, and tells all that can be seen of an object. */
final class Words {
    static final int NEVER = 0;
    static final int ALWAYS = 7;

    /** An instruction that does nothing: register 0 becomes 0 + 0, and the condition is 0. */
    static final int NOTHING = 0;

    private Words() {
    }

    static int word(int kind, int t, int a, int b, int c, int n, int m) {
        return kind << 27 | t << 24 | a << 21 | b << 18 | c << 15 | n << 14 | m & 0x3FFF;
    }

    /** Register t becomes register a and m more. */
    static int addNumber(int t, int a, int m) {
        return word(9, t, a, 0, NEVER, 0, m);
    }

    static int kindOnly(int kind) {
        return word(kind, 0, 0, 0, NEVER, 0, 0);
    }

    /** All that mark() remembers, as one text. */
    static String remembered(QueuedFronts x) {
        StringBuilder all = new StringBuilder();
        for (int what = 0; what <= 13; what++) {
            all.append(x.state(what)).append(' ');
        }
        for (int r = 0; r <= 7; r++) {
            all.append(x.register(r)).append(' ');
        }
        for (int k = 0; k <= 3; k++) {
            all.append(x.space(k)).append(' ');
        }
        for (int space = 0; space <= 3; space++) {
            for (int offset = 0; offset <= 15; offset++) {
                all.append(x.peek(space, offset)).append(' ');
            }
        }
        return all.toString();
    }

    /** Code and counts, as one text. */
    static String lasting(QueuedFronts x) {
        StringBuilder all = new StringBuilder();
        for (int space = 0; space <= 3; space++) {
            for (int offset = 0; offset <= 31; offset++) {
                all.append(x.word(space, offset)).append(' ');
            }
        }
        for (int cause = 0; cause <= 6; cause++) {
            all.append(x.count(cause)).append(' ');
        }
        return all.toString();
    }

    static String all(QueuedFronts x) {
        return remembered(x) + lasting(x);
    }
}
