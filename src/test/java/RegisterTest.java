/** Promises 4 and 10 (set and register), 5 and 11 (setSpace and space). */
public final class RegisterTest {
    public static void main(String[] args) {
        Check check = new Check();
        registers(check);
        noSuchRegister(check);
        spaceRegisters(check);
        noSuchSpaceRegister(check);
        check.finish();
    }

    private static void registers(Check check) {
        QueuedFronts x = new QueuedFronts();
        int[] values = {0, Integer.MIN_VALUE, Integer.MAX_VALUE, -1, 1, 70, -70, 12345678};
        for (int r = 1; r <= 7; r++) {
            check.due("set(" + r + ", 3)", x.set(r, 3), true);
            check.due("set(" + r + ", ..)", x.set(r, values[r]), true);
        }
        for (int r = 0; r <= 7; r++) {
            check.due("register(" + r + ")", x.register(r), values[r]);
        }
    }

    private static void noSuchRegister(Check check) {
        QueuedFronts x = new QueuedFronts();
        for (int r = 1; r <= 7; r++) {
            x.set(r, 10 + r);
        }
        String before = Words.all(x);
        for (int r : new int[] {0, -1, 8, 9, Integer.MIN_VALUE, Integer.MAX_VALUE}) {
            check.due("set(" + r + ", 5)", x.set(r, 5), false);
            check.due("register(" + r + ")", x.register(r), 0);
        }
        check.due("all after refusals", Words.all(x), before);
    }

    private static void spaceRegisters(Check check) {
        QueuedFronts x = new QueuedFronts();
        for (int k = 0; k <= 3; k++) {
            for (int space = 0; space <= 3; space++) {
                check.due("setSpace(" + k + ", " + space + ")", x.setSpace(k, space), true);
                check.due("space(" + k + ")", x.space(k), space);
            }
            x.setSpace(k, 3 - k);
        }
        for (int k = 0; k <= 3; k++) {
            check.due("space(" + k + ")", x.space(k), 3 - k);
        }
    }

    private static void noSuchSpaceRegister(Check check) {
        QueuedFronts x = new QueuedFronts();
        for (int k = 0; k <= 3; k++) {
            x.setSpace(k, 2);
        }
        String before = Words.all(x);
        for (int wrong : new int[] {-1, 4, 5, Integer.MIN_VALUE, Integer.MAX_VALUE}) {
            check.due("setSpace(" + wrong + ", 1)", x.setSpace(wrong, 1), false);
            check.due("setSpace(1, " + wrong + ")", x.setSpace(1, wrong), false);
            check.due("space(" + wrong + ")", x.space(wrong), QueuedFronts.NONE);
        }
        check.due("all after refusals", Words.all(x), before);
    }
}
