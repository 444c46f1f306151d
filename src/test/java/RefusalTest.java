/** "A call that is refused changes nothing": of what is now, of what is remembered, or of what comes next. */
public final class RefusalTest {
    private static final int LEAST = Integer.MIN_VALUE;
    private static final int MOST = Integer.MAX_VALUE;

    public static void main(String[] args) {
        Check check = new Check();
        nothingNow(check);
        nothingRemembered(check);
        nothingOfTheNextSteps(check);
        check.finish();
    }

    /** Nullification, interruptions let in and a pending one, something saved, all rows in use. */
    private static QueuedFronts busy() {
        QueuedFronts x = new QueuedFronts();
        for (int r = 1; r <= 7; r++) {
            x.set(r, 10 * r);
        }
        for (int k = 0; k <= 3; k++) {
            x.setSpace(k, 3 - k);
        }
        for (int space = 0; space <= 3; space++) {
            x.data(space, 0, 100 + space);
            x.data(space, 15, 200 + space);
            x.code(space, 31, Words.kindOnly(24));
            x.code(space, 0, Words.word(8, 7, 0, 0, Words.ALWAYS, 0, 0));
        }
        x.go(3, 31, true);
        x.run(1);
        x.go(2, 0, true);
        x.run(1);
        x.interrupt();
        return x;
    }

    private static void refuse(Check check, QueuedFronts x) {
        for (int wrong : new int[] {-1, 4, LEAST, MOST}) {
            check.due("code(" + wrong + ", 0, 1)", x.code(wrong, 0, 1), false);
            check.due("data(" + wrong + ", 0, 1)", x.data(wrong, 0, 1), false);
            check.due("setSpace(" + wrong + ", 1)", x.setSpace(wrong, 1), false);
            check.due("setSpace(1, " + wrong + ")", x.setSpace(1, wrong), false);
            check.due("setSpace(" + wrong + ", " + wrong + ")", x.setSpace(wrong, wrong), false);
            check.due("go(" + wrong + ", 0, false)", x.go(wrong, 0, false), false);
        }
        for (int wrong : new int[] {-1, 32, LEAST, MOST}) {
            check.due("code(1, " + wrong + ", 1)", x.code(1, wrong, 1), false);
            check.due("go(1, " + wrong + ", false)", x.go(1, wrong, false), false);
        }
        for (int wrong : new int[] {-1, 16, 31, 32, LEAST, MOST}) {
            check.due("data(1, " + wrong + ", 1)", x.data(1, wrong, 1), false);
        }
        for (int wrong : new int[] {-1, 0, 8, LEAST, MOST}) {
            check.due("set(" + wrong + ", 1)", x.set(wrong, 1), false);
        }
        for (int wrong : new int[] {-1, 201, LEAST, MOST}) {
            check.due("run(" + wrong + ")", x.run(wrong), QueuedFronts.NONE);
        }
        check.due("interrupt()", x.interrupt(), false);
    }

    private static void nothingNow(Check check) {
        QueuedFronts x = busy();
        check.dueStates("busy", x, 0, 2, 1, 2, 2, 1, 1, 1, 3, 31, 3, 0, 0, 1, 4);
        refuse(check, x);
        check.due("back()", x.back(), false);
        check.due("all after refusals", Words.all(x), Words.all(busy()));
        check.due("still nothing remembered", x.back(), false);
    }

    private static void nothingRemembered(Check check) {
        QueuedFronts x = busy();
        x.mark();
        refuse(check, x);
        check.due("back()", x.back(), true);
        check.due("all after back()", Words.all(x), Words.all(busy()));
    }

    private static void nothingOfTheNextSteps(Check check) {
        QueuedFronts x = busy();
        QueuedFronts twin = busy();
        refuse(check, x);
        check.due("run(77)", x.run(77), twin.run(77));
        check.due("all after run(77)", Words.all(x), Words.all(twin));
    }
}
