/** The kinds 13 to 17 (promise 8). */
public final class BranchTest {
    private final Check check = new Check();

    public static void main(String[] args) {
        BranchTest test = new BranchTest();
        test.link();
        test.linkInTheShadowOfABranch();
        test.targetsInTheShadowOfABranch();
        test.compare();
        test.addAndBranch();
        test.addInPlace();
        test.jump();
        test.jumpToSpace();
        test.theInstructionBehindIsDone();
        test.branchInTheShadowOfABranch();
        test.check.finish();
    }

    private static QueuedFronts done(int word, int offset, int a, int b, int t) {
        QueuedFronts x = new QueuedFronts();
        x.set(1, a);
        x.set(2, b);
        x.set(3, t);
        x.setSpace(0, 2);
        x.setSpace(1, 3);
        x.setSpace(2, 0);
        x.setSpace(3, 1);
        x.code(1, offset, word);
        x.go(1, offset, true);
        x.run(1);
        return x;
    }

    private void dueQueue(String of, QueuedFronts x, int offset, int backSpace, int backOffset, int nullify) {
        check.dueStates(of, x, 0, 1, offset + 1 & 31, backSpace, backOffset, nullify, 1, 0, 0, 0, 0, 0, 0, 0, 0);
    }

    private void link() {
        int[][] rows = {{5, 0, 7}, {5, 3, 10}, {5, -2, 5}, {5, -8, 31}, {30, 0, 0}, {31, 31, 0}, {0, 8191, 1},
            {0, -8192, 2}, {29, 0, 31}};
        for (int[] row : rows) {
            for (int n = 0; n <= 1; n++) {
                String of = "kind 13 at " + row[0] + ", m " + row[1];
                QueuedFronts x = done(Words.word(13, 3, 1, 2, 0, n, row[1]), row[0], 99, 98, 555);
                dueQueue(of, x, row[0], 1, row[2], n);
                check.due(of, x.register(3), row[0] + 2 & 31);
                QueuedFronts lost = done(Words.word(13, 0, 1, 2, 7, n, row[1]), row[0], 99, 98, 555);
                dueQueue(of, lost, row[0], 1, row[2], n);
                check.due(of, lost.register(0), 0);
            }
        }
    }

    private void linkInTheShadowOfABranch() {
        QueuedFronts x = new QueuedFronts();
        x.setSpace(1, 3);
        x.code(1, 5, Words.word(17, 0, 0, 1, 0, 0, 31));
        x.code(1, 6, Words.word(13, 4, 0, 0, 0, 0, 3));
        x.go(1, 5, false);
        x.run(2);
        check.due("the offset behind the back one, not behind the front", x.register(4), 0);
        check.dueStates("the target has the front's space", x, 0, 3, 31, 1, 11);
        x.run(1);
        check.dueStates("and is come to", x, 0, 1, 11, 1, 12);
    }

    /** The front is place 6 of space 1, the back the last one of space 3, when the word is done. */
    private void inShadow(int word, int backSpace, int backOffset) {
        QueuedFronts x = new QueuedFronts();
        x.setSpace(1, 3);
        x.set(1, 40);
        x.code(1, 5, Words.word(17, 0, 0, 1, 0, 0, 31));
        x.code(1, 6, word);
        x.go(1, 5, false);
        x.run(2);
        check.dueStates("in the shadow, kind " + (word >>> 27), x, 0, 3, 31, backSpace, backOffset, 0);
    }

    private void targetsInTheShadowOfABranch() {
        inShadow(Words.word(13, 0, 0, 0, 0, 0, 3), 1, 11);
        inShadow(Words.word(14, 0, 0, 0, Words.ALWAYS, 0, 3), 1, 11);
        inShadow(Words.word(15, 0, 0, 0, Words.ALWAYS, 0, -9), 1, 31);
        inShadow(Words.word(16, 0, 1, 0, 0, 0, 3), 1, 11);
        inShadow(Words.word(17, 0, 1, 0, 0, 0, 3), 0, 11);
        inShadow(Words.word(17, 0, 1, 1, 0, 0, -9), 3, 31);
        // those that do not branch go on behind the back, in its space
        inShadow(Words.word(14, 0, 0, 0, Words.NEVER, 0, 3), 3, 0);
        inShadow(Words.word(15, 0, 0, 0, Words.NEVER, 0, 3), 3, 0);
        inShadow(Words.NOTHING, 3, 0);
    }

    private void compare() {
        // each row: A, B, condition, whether it branches
        int[][] rows = {{5, 5, 1, 1}, {5, 6, 1, 0}, {-1, 1, 2, 1}, {1, -1, 2, 0}, {-1, 1, 4, 0}, {1, -1, 4, 1},
            {5, 5, 3, 1}, {5, 5, 0, 0}, {5, 6, 7, 1}, {5, 6, 6, 1}, {5, 7, 6, 0}};
        for (int[] row : rows) {
            for (int m : new int[] {0, 4, -1, -4, 8191, -8192}) {
                for (int n = 0; n <= 1; n++) {
                    String of = "kind 14 of " + row[0] + ", " + row[1] + ", c " + row[2] + ", m " + m + ", n " + n;
                    QueuedFronts x = done(Words.word(14, 3, 1, 2, row[2], n, m), 30, row[0], row[1], 555);
                    boolean branches = row[3] == 1;
                    boolean nullifies = n == 1 && (m >= 0 && branches || m < 0 && !branches);
                    dueQueue(of, x, 30, 1, branches ? m & 31 : 0, nullifies ? 1 : 0);
                    check.due(of, x.register(3), 555);
                }
            }
        }
    }

    private void addAndBranch() {
        // each row: A, T, condition, the sum, whether it branches
        int[][] rows = {{5, -5, 1, 0, 1}, {5, 5, 1, 10, 0}, {-1, 0, 2, -1, 1}, {1, 0, 2, 1, 0},
            {1, Integer.MAX_VALUE, 2, Integer.MIN_VALUE, 1}, {-1, Integer.MIN_VALUE, 2, Integer.MAX_VALUE, 0},
            {1, 1, 0, 2, 0}, {1, 1, 7, 2, 1}, {1, 2, 6, 3, 1}, {1, 1, 6, 2, 0}, {-1, 0, 5, -1, 0}, {1, -1, 5, 0, 1}};
        for (int[] row : rows) {
            for (int m : new int[] {0, 4, -1, -4}) {
                for (int n = 0; n <= 1; n++) {
                    String of = "kind 15 of " + row[0] + ", " + row[1] + ", c " + row[2] + ", m " + m + ", n " + n;
                    // B is what would turn the condition round if it were asked
                    QueuedFronts x = done(Words.word(15, 3, 1, 2, row[2], n, m), 29, row[0], row[3] + 1, row[1]);
                    boolean branches = row[4] == 1;
                    boolean nullifies = n == 1 && (m >= 0 && branches || m < 0 && !branches);
                    dueQueue(of, x, 29, 1, branches ? 31 + m & 31 : 31, nullifies ? 1 : 0);
                    check.due(of, x.register(3), row[3]);
                    check.due(of, x.register(1), row[0]);
                }
            }
        }
    }

    private void addInPlace() {
        QueuedFronts lost = done(Words.word(15, 0, 1, 2, 2, 1, 9), 4, -7, 0, 0);
        dueQueue("kind 15, t 0: -7 is below 0", lost, 4, 1, 15, 1);
        check.due("register(0)", lost.register(0), 0);
        QueuedFronts still = done(Words.word(15, 0, 1, 2, 1, 0, 9), 4, -7, 0, 0);
        dueQueue("kind 15, t 0: -7 is not 0", still, 4, 1, 6, 0);
        QueuedFronts doubled = done(Words.word(15, 1, 1, 2, 2, 0, 9), 4, 7, 0, 0);
        check.due("kind 15, t and a the same", doubled.register(1), 14);
        QueuedFronts wrapped = done(Words.word(15, 1, 1, 2, 2, 0, 9), 4, 1 << 30, 0, 0);
        dueQueue("kind 15, t and a the same: the sum wraps below 0", wrapped, 4, 1, 15, 0);
        check.due("register(1)", wrapped.register(1), Integer.MIN_VALUE);
    }

    private void jump() {
        int[][] rows = {{0, 0, 0}, {10, 7, 17}, {31, 1, 0}, {0, -1, 31}, {-1, 0, 31}, {-100, 36, 0},
            {Integer.MAX_VALUE, 1, 0}, {Integer.MIN_VALUE, -1, 31}, {1000, 8191, 7}, {0, -8192, 0}};
        for (int[] row : rows) {
            for (int n = 0; n <= 1; n++) {
                for (int t = 0; t <= 3; t++) {
                    String of = "kind 16 of " + row[0] + " + " + row[1];
                    QueuedFronts x = done(Words.word(16, t, 1, 3, 0, n, row[1]), 20, row[0], 98, 555);
                    dueQueue(of, x, 20, 1, row[2], n);
                    check.due(of, x.register(3), 555);
                    check.due(of, x.register(1), row[0]);
                    for (int b = 0; b <= 7; b++) {
                        int target = new int[] {2, 3, 0, 1}[b & 3];
                        String away = "kind 17 by " + b + " of " + row[0] + " + " + row[1];
                        QueuedFronts y = done(Words.word(17, t, 1, b, 0, n, row[1]), 20, row[0], 98, 555);
                        dueQueue(away, y, 20, target, row[2], n);
                        check.due(away, y.register(3), 555);
                        check.due(away, y.register(1), row[0]);
                    }
                }
            }
        }
    }

    private void jumpToSpace() {
        QueuedFronts x = done(Words.word(17, 0, 0, 1, 0, 0, 31), 20, 0, 0, 0);
        x.run(1);
        check.dueStates("come to space 3", x, 0, 3, 31, 3, 0);
        x.run(1);
        check.dueStates("and stays there", x, 0, 3, 0, 3, 1);
    }

    private void theInstructionBehindIsDone() {
        for (int n = 0; n <= 1; n++) {
            QueuedFronts x = new QueuedFronts();
            x.code(0, 0, Words.word(16, 0, 0, 0, 0, n, 10));
            x.code(0, 1, Words.addNumber(1, 1, 1));
            x.code(0, 2, Words.addNumber(2, 2, 1));
            x.code(0, 10, Words.addNumber(3, 3, 1));
            x.run(3);
            check.due("the one behind, n " + n, x.register(1), 1 - n);
            check.due("the one behind that", x.register(2), 0);
            check.due("the target", x.register(3), 1);
            check.due("count(6)", x.count(6), n);
            check.dueStates("gone on", x, 0, 0, 11, 0, 12, 0);
        }
    }

    private void branchInTheShadowOfABranch() {
        QueuedFronts x = new QueuedFronts();
        x.code(0, 0, Words.word(16, 0, 0, 0, 0, 0, 10));
        x.code(0, 1, Words.word(16, 0, 0, 0, 0, 0, 20));
        x.code(0, 10, Words.addNumber(1, 1, 1));
        x.code(0, 11, Words.addNumber(2, 2, 1));
        x.code(0, 20, Words.addNumber(3, 3, 1));
        x.run(2);
        check.dueStates("both targets stand in the queue", x, 0, 0, 10, 0, 20);
        x.run(2);
        check.due("one at the first target", x.register(1), 1);
        check.due("none behind it", x.register(2), 0);
        check.due("then the second", x.register(3), 1);
        check.dueStates("gone on", x, 0, 0, 21, 0, 22);
    }
}
