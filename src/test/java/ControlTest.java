/** The kinds 18 and above (promise 8). */
public final class ControlTest {
    private final Check check = new Check();

    public static void main(String[] args) {
        ControlTest test = new ControlTest();
        test.spaceRegisters();
        test.lets();
        test.returns();
        test.readsSaved();
        test.readsSavedBeforeAnyTrap();
        test.writesSaved();
        test.writtenThingsAreReturnedTo();
        test.trapsByKind();
        test.check.finish();
    }

    private static QueuedFronts withSaved() {
        QueuedFronts x = new QueuedFronts();
        x.setSpace(1, 3);
        x.code(2, 29, Words.word(17, 0, 0, 1, 0, 1, 17));
        x.go(2, 29, true);
        x.run(1);
        x.interrupt();
        x.run(1);
        return x;
    }

    private void doAt(QueuedFronts x, int word) {
        x.code(1, 8, word);
        x.go(1, 8, false);
        check.due("run(1) of " + word, x.run(1), 0);
        check.dueStates("moved on, nullifying nothing", x, 0, 1, 9, 1, 10, 0);
    }

    private void spaceRegisters() {
        int[] values = {0, 1, 2, 3, 4, 7, -1, -2, Integer.MIN_VALUE, Integer.MAX_VALUE};
        int[] lowest = {0, 1, 2, 3, 0, 3, 3, 2, 0, 3};
        for (int i = 0; i < values.length; i++) {
            for (int b = 0; b <= 7; b++) {
                QueuedFronts x = new QueuedFronts();
                x.set(1, values[i]);
                x.set(2, 77);
                doAt(x, Words.word(18, 2, 1, b, Words.ALWAYS, 1, 5));
                for (int k = 0; k <= 3; k++) {
                    check.due("kind 18: space(" + k + ")", x.space(k), k == (b & 3) ? lowest[i] : 0);
                }
                check.due("kind 18 writes no register", x.register(2), 77);
                doAt(x, Words.word(19, 2, 1, b, Words.ALWAYS, 1, 5));
                check.due("kind 19", x.register(2), lowest[i]);
                doAt(x, Words.word(19, 0, 1, b, Words.ALWAYS, 1, 5));
                check.due("kind 19, t 0", x.register(0), 0);
            }
        }
    }

    private void lets() {
        for (int before = 0; before <= 1; before++) {
            for (int n = 0; n <= 1; n++) {
                QueuedFronts x = new QueuedFronts();
                x.set(4, 9);
                x.code(1, 8, Words.word(20, 4, 1, 2, Words.ALWAYS, n, 3));
                x.go(1, 8, before == 1);
                x.run(1);
                check.due("kind 20", x.register(4), before);
                check.dueStates("kind 20", x, 0, 1, 9, 1, 10, 0, n);
            }
        }
    }

    private void returns() {
        QueuedFronts x = withSaved();
        check.dueStates("saved", x, 0, 0, 4, 0, 5, 0, 0, 0, 2, 30, 3, 17, 1, 1, 1);
        x.code(0, 4, Words.word(21, 3, 2, 1, Words.ALWAYS, 0, 9));
        check.due("run(1)", x.run(1), 0);
        check.dueStates("returned", x, 0, 2, 30, 3, 17, 1, 1, 0, 2, 30, 3, 17, 1, 1, 1);
        check.due("register(3)", x.register(3), 0);
        x.run(1);
        check.dueStates("the nullified one", x, 0, 3, 17, 3, 18, 0, 1);
        check.due("count(6)", x.count(6), 1);

        QueuedFronts fresh = new QueuedFronts();
        fresh.code(1, 8, Words.kindOnly(21));
        fresh.go(1, 8, true);
        fresh.run(1);
        check.dueStates("nothing was saved: all 0", fresh, 0, 0, 0, 0, 0, 0, 0);
        fresh.run(1);
        check.dueStates("the front comes twice", fresh, 0, 0, 0, 0, 1, 0, 0);
    }

    private void readsSaved() {
        QueuedFronts x = withSaved();
        int[] numbers = {0, 1, 2, 3, 4, 5, 6, 7, -1, 8, 32, 8191, -8192};
        int[] things = {30, 17, 2, 3, 3, 1, 0, 0, 0, 0, 0, 0, 0};
        for (int i = 0; i < numbers.length; i++) {
            x.set(5, 999);
            doAt(x, Words.word(22, 5, 1, 2, Words.ALWAYS, 1, numbers[i]));
            check.due("kind 22, m " + numbers[i], x.register(5), things[i]);
            doAt(x, Words.word(22, 0, 1, 2, Words.ALWAYS, 1, numbers[i]));
            check.due("kind 22, t 0", x.register(0), 0);
        }
        check.dueStates("saved stays", x, 7, 2, 30, 3, 17, 1, 1, 1);
        flagsAreTold(0, 0, 0);
        flagsAreTold(1, 0, 1);
        flagsAreTold(0, 1, 2);
        flagsAreTold(1, 1, 3);
    }

    private void readsSavedBeforeAnyTrap() {
        for (int m = 0; m <= 6; m++) {
            QueuedFronts x = new QueuedFronts();
            x.set(5, 999);
            doAt(x, Words.word(22, 5, 0, 0, 0, 0, m));
            check.due("kind 22 before any trap, m " + m, x.register(5), 0);
        }
    }

    private void flagsAreTold(int nullify, int lets, int want) {
        QueuedFronts x = withSaved();
        x.set(1, want);
        doAt(x, Words.word(23, 0, 1, 0, 0, 0, 4));
        check.dueStates("flags", x, 11, nullify, lets);
        doAt(x, Words.word(22, 5, 0, 0, 0, 0, 4));
        check.due("kind 22 of the flags", x.register(5), want);
    }

    private void writes(int m, int value, int... want) {
        QueuedFronts x = withSaved();
        x.set(1, value);
        x.set(2, 88);
        doAt(x, Words.word(23, 2, 1, 3, Words.ALWAYS, 1, m));
        check.dueStates("kind 23, m " + m + ", A " + value, x, 7, want);
        check.due("kind 23 writes no register", x.register(2), 88);
        check.due("kind 23 writes no register", x.register(1), value);
    }

    private void writesSaved() {
        writes(0, 0, 2, 0, 3, 17, 1, 1, 1);
        writes(0, 31, 2, 31, 3, 17, 1, 1, 1);
        writes(0, 32 + 5, 2, 5, 3, 17, 1, 1, 1);
        writes(0, -1, 2, 31, 3, 17, 1, 1, 1);
        writes(1, 0, 2, 30, 3, 0, 1, 1, 1);
        writes(1, 64 + 9, 2, 30, 3, 9, 1, 1, 1);
        writes(1, -2, 2, 30, 3, 30, 1, 1, 1);
        writes(2, 1, 1, 30, 3, 17, 1, 1, 1);
        writes(2, 4, 0, 30, 3, 17, 1, 1, 1);
        writes(2, -1, 3, 30, 3, 17, 1, 1, 1);
        writes(3, 2, 2, 30, 2, 17, 1, 1, 1);
        writes(3, 5, 2, 30, 1, 17, 1, 1, 1);
        writes(3, Integer.MIN_VALUE, 2, 30, 0, 17, 1, 1, 1);
        writes(4, 0, 2, 30, 3, 17, 0, 0, 1);
        writes(4, 1, 2, 30, 3, 17, 1, 0, 1);
        writes(4, 2, 2, 30, 3, 17, 0, 1, 1);
        writes(4, 4, 2, 30, 3, 17, 0, 0, 1);
        writes(4, -1, 2, 30, 3, 17, 1, 1, 1);
        writes(4, -2, 2, 30, 3, 17, 0, 1, 1);
        manyBits(0, 5);
        manyBits(1, 5);
        manyBits(2, 2);
        manyBits(3, 2);
        for (int m : new int[] {5, 6, 7, -1, -4, 16, 32, 8191, -8192}) {
            writes(m, 0, 2, 30, 3, 17, 1, 1, 1);
            writes(m, 2, 2, 30, 3, 17, 1, 1, 1);
        }
    }

    /** Each bit by itself: the lowest ones count, all above are lost, and the other saved things stay. */
    private void manyBits(int m, int bits) {
        for (int bit = 0; bit <= 31; bit++) {
            int[] things = {2, 30, 3, 17, 1, 1, 1};
            things[new int[] {1, 3, 0, 2}[m]] = bit < bits ? 1 << bit : 0;
            writes(m, 1 << bit, things);
        }
        QueuedFronts x = new QueuedFronts();
        x.code(1, 14, Words.kindOnly(24));
        x.go(1, 14, false);
        x.run(1);
        int[] things = {1, 14, 1, 15, 0, 0, 4};
        things[new int[] {1, 3, 0, 2}[m]] = 3;
        x.set(1, 3);
        doAt(x, Words.word(23, 0, 1, 0, 0, 0, m));
        check.dueStates("kind 23, m " + m + ", after a trap in space 1", x, 7, things);
    }

    private void writtenThingsAreReturnedTo() {
        QueuedFronts x = new QueuedFronts();
        int[] values = {12, 25, 1, 2, 3};
        for (int m = 0; m <= 4; m++) {
            x.set(1, values[m]);
            doAt(x, Words.word(23, 0, 1, 0, 0, 0, m));
        }
        x.code(1, 8, Words.kindOnly(21));
        x.go(1, 8, false);
        x.run(1);
        check.dueStates("returned", x, 0, 1, 12, 2, 25, 1, 1, 0, 1, 12, 2, 25, 1, 1, 0);
    }

    private void trapsByKind() {
        for (int kind = 24; kind <= 31; kind++) {
            int cause = kind == 24 ? 4 : 5;
            QueuedFronts x = new QueuedFronts();
            x.set(1, 5);
            x.code(1, 8, Words.word(kind, 1, 2, 3, Words.ALWAYS, 1, 3));
            x.go(1, 8, false);
            check.due("kind " + kind, x.run(1), 1);
            check.dueStates("kind " + kind, x, 0, 0, 4 * cause, 0, 4 * cause + 1, 0, 0, 0, 1, 8, 1, 9, 0, 0, cause);
            check.due("register(1)", x.register(1), 5);
        }
        for (int kind = 0; kind <= 23; kind++) {
            QueuedFronts x = new QueuedFronts();
            x.code(1, 8, Words.kindOnly(kind));
            x.go(1, 8, false);
            check.due("kind " + kind + " does not trap", x.run(1), 0);
        }
    }
}
