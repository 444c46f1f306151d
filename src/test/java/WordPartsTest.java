/** The parts of a word (terms): each at its least and its most, and none reaching into the next. */
public final class WordPartsTest {
    public static void main(String[] args) {
        Check check = new Check();
        everyRegisterAsEachPart(check);
        everySpaceRegister(check);
        theNumber(check);
        theBitBesideTheNumber(check);
        allBitsSet(check);
        check.finish();
    }

    private static QueuedFronts ready(int word) {
        QueuedFronts x = new QueuedFronts();
        for (int r = 1; r <= 7; r++) {
            x.set(r, 1 << 3 * r);
        }
        x.code(0, 0, word);
        return x;
    }

    private static int value(int r) {
        return r == 0 ? 0 : 1 << 3 * r;
    }

    private static void everyRegisterAsEachPart(Check check) {
        for (int t = 0; t <= 7; t++) {
            for (int a = 0; a <= 7; a++) {
                for (int b = 0; b <= 7; b++) {
                    QueuedFronts x = ready(Words.word(0, t, a, b, 0, 0, 0));
                    x.run(1);
                    for (int r = 0; r <= 7; r++) {
                        int want = r == t && t != 0 ? value(a) + value(b) : value(r);
                        check.due("t " + t + ", a " + a + ", b " + b + ": register(" + r + ")",
                            x.register(r), want);
                    }
                }
            }
        }
    }

    private static void everySpaceRegister(Check check) {
        for (int b = 0; b <= 7; b++) {
            QueuedFronts x = ready(Words.word(19, 3, 7, b, 7, 1, -1));
            for (int k = 0; k <= 3; k++) {
                x.setSpace(k, 3 - k);
            }
            x.run(1);
            check.due("space register by b " + b, x.register(3), 3 - b % 4);
        }
    }

    private static void theNumber(Check check) {
        int[][] rows = {{0, 0}, {1, 1}, {0x1FFF, 8191}, {0x2000, -8192}, {0x2001, -8191}, {0x3FFF, -1}};
        for (int[] row : rows) {
            QueuedFronts x = ready(9 << 27 | 3 << 24 | row[0]);
            x.run(1);
            check.due("the lowest 14 bits " + row[0], x.register(3), row[1]);
            check.due("no condition in it", x.state(4), 0);
        }
    }

    private static void theBitBesideTheNumber(Check check) {
        QueuedFronts x = ready(9 << 27 | 3 << 24 | 1 << 14);
        x.run(1);
        check.due("n is no part of m", x.register(3), 0);
        QueuedFronts y = ready(16 << 27 | 0x3FFF);
        y.run(1);
        check.dueStates("m is no part of n", y, 0, 0, 1, 0, 31, 0);
        QueuedFronts z = ready(16 << 27 | 7 << 15);
        z.run(1);
        check.dueStates("c is no part of n", z, 0, 0, 1, 0, 0, 0);
        QueuedFronts u = ready(8 << 27 | 1 << 14);
        u.run(1);
        check.dueStates("n is no part of c", u, 0, 0, 1, 0, 2, 0);
    }

    private static void allBitsSet(Check check) {
        QueuedFronts x = ready(-1);
        check.due("the word -1 is of kind 31", x.run(1), 1);
        check.due("cause", x.state(13), 5);
        QueuedFronts y = ready(-1 >>> 5);
        check.due("all but the kind: register 7 becomes 7 and 7", y.run(1), 0);
        check.due("register(7)", y.register(7), 1 << 22);
        check.due("the condition is 7", y.state(4), 1);
    }
}
