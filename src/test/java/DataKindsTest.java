/** The kinds 11 and 12 (promise 8). */
public final class DataKindsTest {
    private static final int LEAST = Integer.MIN_VALUE;
    private static final int MOST = Integer.MAX_VALUE;

    public static void main(String[] args) {
        Check check = new Check();
        loads(check);
        stores(check);
        traps(check);
        check.finish();
    }

    private static QueuedFronts ready(int word, int a) {
        QueuedFronts x = new QueuedFronts();
        x.set(1, a);
        x.set(3, 555);
        x.setSpace(0, 3);
        x.setSpace(1, 2);
        x.setSpace(2, 0);
        x.setSpace(3, 1);
        for (int space = 0; space <= 3; space++) {
            for (int offset = 0; offset <= 15; offset++) {
                x.data(space, offset, 100 * (space + 1) + offset);
            }
        }
        x.code(1, 5, word);
        x.go(1, 5, true);
        return x;
    }

    private static void loads(Check check) {
        int[][] offsets = {{0, 0, 0}, {0, 15, 15}, {20, -5, 15}, {-8, 8, 0}, {7, 0, 7},
            {8192, -8192, 0}, {-8191, 8191, 0}, {8200, -8192, 8}};
        int[] spaces = {3, 2, 0, 1};
        for (int[] row : offsets) {
            for (int b = 0; b <= 7; b++) {
                QueuedFronts x = ready(Words.word(11, 3, 1, b, Words.ALWAYS, 1, row[1]), row[0]);
                check.due("run(1)", x.run(1), 0);
                check.due("load by space register " + b + " at " + row[0] + " + " + row[1],
                    x.register(3), 100 * (spaces[b & 3] + 1) + row[2]);
                check.dueStates("load nullifies nothing", x, 0, 1, 6, 1, 7, 0, 1);
            }
        }
        QueuedFronts lost = ready(Words.word(11, 0, 1, 0, 0, 0, 0), 4);
        check.due("run(1)", lost.run(1), 0);
        check.due("register(0)", lost.register(0), 0);
        QueuedFronts own = ready(Words.word(11, 1, 1, 2, 0, 0, 1), 4);
        own.run(1);
        check.due("t and a the same", own.register(1), 105);
    }

    private static void stores(Check check) {
        int[] spaces = {3, 2, 0, 1};
        for (int b = 0; b <= 7; b++) {
            for (int offset = 0; offset <= 15; offset++) {
                QueuedFronts x = ready(Words.word(12, 3, 1, b, Words.ALWAYS, 1, offset - 20), 20);
                check.due("run(1)", x.run(1), 0);
                for (int other = 0; other <= 15; other++) {
                    for (int space = 0; space <= 3; space++) {
                        boolean here = other == offset && space == spaces[b & 3];
                        check.due("store: peek(" + space + ", " + other + ")", x.peek(space, other),
                            here ? 555 : 100 * (space + 1) + other);
                    }
                }
                check.due("T stays", x.register(3), 555);
                check.dueStates("store nullifies nothing", x, 0, 1, 6, 1, 7, 0, 1);
            }
        }
        QueuedFronts zero = ready(Words.word(12, 0, 1, 0, 0, 0, 0), 4);
        zero.run(1);
        check.due("register 0 stored", zero.peek(3, 4), 0);
        QueuedFronts own = ready(Words.word(12, 1, 1, 2, 0, 0, -2), 17);
        own.run(1);
        check.due("t and a the same", own.peek(0, 15), 17);
    }

    private static void traps(Check check) {
        int[][] outside = {{0, 16}, {0, -1}, {16, 0}, {-1, 0}, {15, 1}, {MOST, 0}, {LEAST, 0}, {MOST, 1},
            {LEAST, -1}, {0, 8191}, {0, -8192}, {31, 0}, {32, 0}};
        for (int[] row : outside) {
            for (int kind = 11; kind <= 12; kind++) {
                for (int t = 0; t <= 3; t += 3) {
                    QueuedFronts x = ready(Words.word(kind, t, 1, 1, 0, 0, row[1]), row[0]);
                    QueuedFronts untouched = ready(0, row[0]);
                    String of = "kind " + kind + " at " + row[0] + " + " + row[1];
                    check.due(of, x.run(1), 1);
                    check.dueStates(of, x, 0, 0, 12, 0, 13, 0, 0, 0, 1, 5, 1, 6, 0, 1, 3);
                    check.due(of, x.register(3), 555);
                    for (int i = 0; i <= 63; i++) {
                        check.due(of + ": peek", x.peek(i / 16, i % 16), untouched.peek(i / 16, i % 16));
                    }
                }
            }
        }
    }
}
