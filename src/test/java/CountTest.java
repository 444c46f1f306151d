/** Promise 14: count. */
public final class CountTest {
    public static void main(String[] args) {
        Check check = new Check();
        QueuedFronts x = new QueuedFronts();
        trapOnce(x, Words.word(1, 1, 2, 2, 0, 0, 0), 2);
        trapOnce(x, Words.word(11, 1, 0, 0, 0, 0, -1), 3);
        trapOnce(x, Words.kindOnly(24), 4);
        trapOnce(x, Words.kindOnly(31), 5);
        for (int i = 0; i < 6; i++) {
            x.go(1, 0, true);
            x.interrupt();
            x.run(1);
        }
        dueCounts(check, x, 20, 6, 2, 3, 4, 5, 0);
        x.mark();
        x.code(3, 0, Words.word(0, 0, 0, 0, Words.ALWAYS, 0, 0));
        x.go(3, 0, false);
        x.run(1);
        dueCounts(check, x, 21, 6, 2, 3, 4, 5, 0);
        x.run(1);
        dueCounts(check, x, 22, 6, 2, 3, 4, 5, 1);
        x.run(200);
        dueCounts(check, x, 222, 6, 2, 3, 4, 5, 7);
        x.back();
        dueCounts(check, x, 222, 6, 2, 3, 4, 5, 7);
        x.run(0);
        x.run(201);
        x.run(-1);
        x.interrupt();
        dueCounts(check, x, 222, 6, 2, 3, 4, 5, 7);
        for (int cause : new int[] {-1, 7, 8, Integer.MIN_VALUE, Integer.MAX_VALUE}) {
            check.due("count(" + cause + ")", x.count(cause), QueuedFronts.NONE);
        }
        check.finish();
    }

    private static void trapOnce(QueuedFronts x, int word, int times) {
        x.set(2, Integer.MAX_VALUE);
        x.code(1, 0, word);
        for (int i = 0; i < times; i++) {
            x.go(1, 0, false);
            x.run(1);
        }
    }

    private static void dueCounts(Check check, QueuedFronts x, int... want) {
        for (int cause = 0; cause <= 6; cause++) {
            check.due("count(" + cause + ")", x.count(cause), want[cause]);
        }
    }
}
