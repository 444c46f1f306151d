/** The kinds 0 to 10 (promise 8). */
public final class ReckoningTest {
    private static final int LEAST = Integer.MIN_VALUE;
    private static final int MOST = Integer.MAX_VALUE;
    private static final int ZERO = 1;
    private static final int BELOW = 2;

    private final Check check = new Check();

    public static void main(String[] args) {
        ReckoningTest test = new ReckoningTest();
        test.results();
        test.overflowTraps();
        test.shifts();
        test.nullifyByResult();
        test.nullifyByRightShift();
        test.nullifyByOperands();
        test.operandsOfBefore();
        test.check.finish();
    }

    private static QueuedFronts done(int word, int a, int b) {
        QueuedFronts x = new QueuedFronts();
        x.set(1, a);
        x.set(2, b);
        x.set(3, 555);
        x.code(1, 5, word);
        x.go(1, 5, true);
        x.run(1);
        return x;
    }

    private void result(int kind, int a, int b, int n, int m, int want) {
        String of = "kind " + kind + " of " + a + ", " + b + ", n " + n + ", m " + m;
        QueuedFronts x = done(Words.word(kind, 3, 1, 2, Words.NEVER, n, m), a, b);
        check.due(of, x.register(3), want);
        check.due(of + ": A", x.register(1), a);
        check.due(of + ": B", x.register(2), b);
        check.dueStates(of, x, 0, 1, 6, 1, 7, 0, 1, 0, 0, 0, 0, 0, 0, 0, 0);
        QueuedFronts lost = done(Words.word(kind, 0, 1, 2, Words.NEVER, n, m), a, b);
        check.due(of + ", t 0", lost.register(0), 0);
        check.due(of + ", t 0", lost.register(3), 555);
    }

    private void results() {
        result(0, 7, -9, 0, 100, -2);
        result(0, MOST, 1, 0, 0, LEAST);
        result(0, LEAST, -1, 1, -1, MOST);
        result(1, 7, -9, 0, 100, -2);
        result(1, MOST, 0, 1, 0, MOST);
        result(1, MOST, LEAST, 0, 0, -1);
        result(1, LEAST + 1, -1, 0, 0, LEAST);
        result(2, 7, -9, 0, 100, 16);
        result(2, 0, LEAST, 0, 0, LEAST);
        result(2, LEAST, 1, 1, 0, MOST);
        result(3, 7, 9, 0, 100, -2);
        result(3, -1, LEAST, 0, 0, MOST);
        result(3, LEAST + 1, 1, 0, 0, LEAST);
        result(4, 0b1100, 0b1010, 1, 5, 0b1000);
        result(4, -1, LEAST, 0, 0, LEAST);
        result(5, 0b1100, 0b1010, 1, 5, 0b1110);
        result(5, LEAST, MOST, 0, 0, -1);
        result(6, 0b1100, 0b1010, 1, 5, 0b0110);
        result(6, -1, MOST, 0, 0, LEAST);
        result(7, 0b1100, 0b1010, 1, 5, 0b0100);
        result(7, -1, MOST, 0, 0, LEAST);
        result(8, 12, 34, 1, 56, 0);
        result(9, 100, 7, 0, 8191, 8291);
        result(9, 100, 7, 1, -8192, -8092);
        result(9, 100, 7, 0, -1, 99);
        result(9, MOST, 7, 0, 1, LEAST);
        result(9, LEAST, 7, 1, -1, MOST);
    }

    private void shifts() {
        result(10, -3, 9, 0, 0, -3);
        result(10, -3, 9, 1, 0, -3);
        result(10, 3, 9, 0, 4, 48);
        result(10, -3, 9, 0, 31, LEAST);
        result(10, -3, 9, 1, 1, MOST - 1);
        result(10, -3, 9, 1, 31, 1);
        result(10, 3, 9, 0, 32, 3);
        result(10, 3, 9, 0, 33, 6);
        result(10, 3, 9, 0, -1, LEAST);
        result(10, LEAST, 9, 1, -1, 1);
        result(10, LEAST, 9, 1, -32, LEAST);
        result(10, 0x12345678, 9, 1, 8, 0x00123456);
        result(10, 0x12345678, 9, 0, 8, 0x34567800);
    }

    private void overflow(int kind, int t, int a, int b) {
        String of = "kind " + kind + " of " + a + ", " + b;
        QueuedFronts x = done(Words.word(kind, t, 1, 2, Words.ALWAYS, 0, 0), a, b);
        check.dueStates(of, x, 0, 0, 8, 0, 9, 0, 0, 0, 1, 5, 1, 6, 0, 1, 2);
        check.due(of + ": count(2)", x.count(2), 1);
        check.due(of + ": register(3)", x.register(3), 555);
        check.due(of + ": register(1)", x.register(1), a);
        check.due(of + ": register(2)", x.register(2), b);
    }

    private void overflowTraps() {
        for (int t = 0; t <= 3; t++) {
            overflow(1, t, MOST, 1);
            overflow(1, t, LEAST, -1);
            overflow(1, t, LEAST, LEAST);
            overflow(1, t, MOST, MOST);
            overflow(3, t, LEAST, 1);
            overflow(3, t, MOST, -1);
            overflow(3, t, 0, LEAST);
            overflow(3, t, -2, MOST);
        }
    }

    private void nullifies(int kind, int a, int b, int c, int m, boolean want) {
        for (int t : new int[] {0, 1, 2, 3}) {
            QueuedFronts x = done(Words.word(kind, t, 1, 2, c, 0, m), a, b);
            String of = "kind " + kind + " of " + a + ", " + b + ", c " + c + ", t " + t;
            check.due(of, x.state(4) == 1, want);
            check.due(of + ": state(1)", x.state(1), 6);
            check.due(of + ": state(3)", x.state(3), 7);
        }
    }

    private void nullifyByResult() {
        for (int kind : new int[] {0, 1}) {
            nullifies(kind, 5, -5, ZERO, 0, true);
            nullifies(kind, 5, 5, ZERO, 0, false);
            nullifies(kind, 5, -6, BELOW, 0, true);
            nullifies(kind, -5, 6, BELOW, 0, false);
            nullifies(kind, 1, 2, 6, 0, true);
            nullifies(kind, 1, 3, 6, 0, false);
        }
        nullifies(0, MOST, 1, BELOW, 0, true);
        nullifies(4, 12, 3, ZERO, 0, true);
        nullifies(4, 12, 12, ZERO, 0, false);
        nullifies(5, 12, 12, ZERO, 0, false);
        nullifies(5, 0, 0, ZERO, 0, true);
        nullifies(5, 0, LEAST, BELOW, 0, true);
        nullifies(6, 12, 12, ZERO, 0, true);
        nullifies(6, -12, 12, BELOW, 0, true);
        nullifies(6, 1, 3, BELOW, 0, false);
        nullifies(7, 12, 12, ZERO, 0, true);
        nullifies(7, 13, 12, 6, 0, true);
        nullifies(9, 12, 12, ZERO, -12, true);
        nullifies(9, 12, 12, ZERO, 0, false);
        nullifies(9, 12, 0, BELOW, -13, true);
        // the sum wraps, and the condition is asked of what t becomes
        nullifies(9, MOST, 0, BELOW, 1, true);
        nullifies(9, LEAST, 0, BELOW, -1, false);
        nullifies(0, LEAST, -1, BELOW, 0, false);
        nullifies(10, 1, 1, BELOW, 31, true);
        nullifies(10, 2, 2, ZERO, 31, true);
        nullifies(10, 1, 1, ZERO, 31, false);
    }

    private void nullifyByRightShift() {
        // each row: A, m, condition, whether it nullifies
        int[][] rows = {{-1, 31, BELOW, 0}, {-1, 0, BELOW, 1}, {-1, 32, BELOW, 1}, {1, 1, ZERO, 1}, {2, 1, ZERO, 0},
            {2, 1, 6, 1}, {LEAST, -1, 6, 1}, {LEAST, 31, 0, 0}, {LEAST, 31, Words.ALWAYS, 1}};
        for (int[] row : rows) {
            for (int t = 0; t <= 3; t++) {
                QueuedFronts x = done(Words.word(10, t, 1, 2, row[2], 1, row[1]), row[0], 7);
                check.due("to the right by " + row[1] + ", A " + row[0] + ", c " + row[2] + ", t " + t,
                    x.state(4), row[3]);
            }
        }
    }

    private void nullifyByOperands() {
        for (int kind : new int[] {2, 3, 8}) {
            nullifies(kind, 5, 5, ZERO, 0, true);
            nullifies(kind, 5, 4, ZERO, 0, false);
            nullifies(kind, 4, 5, BELOW, 0, true);
            nullifies(kind, 5, 4, BELOW, 0, false);
            nullifies(kind, -1, 1, 4, 0, false);
            nullifies(kind, 1, -1, 4, 0, true);
        }
        // the difference wraps to below 0, but A is not below B
        nullifies(2, MOST, -1, BELOW, 0, false);
        nullifies(2, LEAST, 1, BELOW, 0, true);
        nullifies(8, LEAST, 1, BELOW, 0, true);
    }

    private void operandsOfBefore() {
        QueuedFronts same = done(Words.word(2, 1, 1, 1, ZERO, 0, 0), 9, 0);
        check.due("A - A in place", same.register(1), 0);
        check.due("A = A", same.state(4), 1);
        QueuedFronts cleared = done(Words.word(8, 1, 1, 2, ZERO, 0, 0), 9, 0);
        check.due("cleared in place", cleared.register(1), 0);
        check.due("9 is not 0", cleared.state(4), 0);
        QueuedFronts doubled = done(Words.word(0, 1, 1, 1, 0, 0, 0), 21, 0);
        check.due("A + A in place", doubled.register(1), 42);
        QueuedFronts zero = done(Words.word(0, 3, 0, 0, ZERO, 0, 0), 21, 0);
        check.due("register 0 is 0", zero.register(3), 0);
        check.due("register 0 is 0", zero.state(4), 1);
    }
}
