/** The conditions, seen by kind 8, which nullifies when the condition holds of A and B (promise 8). */
public final class ConditionTest {
    private static final int LEAST = Integer.MIN_VALUE;
    private static final int MOST = Integer.MAX_VALUE;

    public static void main(String[] args) {
        Check check = new Check();
        // each row: x, y, and for each condition 0 .. 7 whether it holds
        int[][] rows = {
            {0, 0, 0, 1, 0, 1, 0, 1, 0, 1},
            {0, 1, 0, 0, 1, 1, 1, 1, 1, 1},
            {1, 0, 0, 0, 0, 0, 0, 0, 1, 1},
            {5, 3, 0, 0, 0, 0, 0, 0, 0, 1},
            {3, 5, 0, 0, 1, 1, 1, 1, 0, 1},
            {-1, 1, 0, 0, 1, 1, 0, 0, 0, 1},
            {1, -1, 0, 0, 0, 0, 1, 1, 0, 1},
            {-1, 0, 0, 0, 1, 1, 0, 0, 1, 1},
            {0, -1, 0, 0, 0, 0, 1, 1, 1, 1},
            {-1, -1, 0, 1, 0, 1, 0, 1, 0, 1},
            {-2, -1, 0, 0, 1, 1, 1, 1, 1, 1},
            {LEAST, MOST, 0, 0, 1, 1, 0, 0, 1, 1},
            {MOST, LEAST, 0, 0, 0, 0, 1, 1, 1, 1},
            {LEAST, 0, 0, 0, 1, 1, 0, 0, 0, 1},
            {0, LEAST, 0, 0, 0, 0, 1, 1, 0, 1},
            {LEAST, LEAST, 0, 1, 0, 1, 0, 1, 0, 1},
            {MOST, -1, 0, 0, 0, 0, 1, 1, 0, 1},
        };
        for (int[] row : rows) {
            for (int c = 0; c <= 7; c++) {
                QueuedFronts x = new QueuedFronts();
                x.set(1, row[0]);
                x.set(2, row[1]);
                x.code(0, 0, Words.word(8, 0, 1, 2, c, 0, 0));
                x.run(1);
                check.due("condition " + c + " of " + row[0] + ", " + row[1], x.state(4), row[2 + c]);
            }
        }
        check.finish();
    }
}
