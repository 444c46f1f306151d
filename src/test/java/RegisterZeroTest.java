/** "Register 0 is always 0, and what is written to it is lost": by every kind that writes a register. */
public final class RegisterZeroTest {
    public static void main(String[] args) {
        Check check = new Check();
        int[] written = {
            Words.word(0, 0, 1, 2, 0, 0, 0), Words.word(1, 0, 1, 2, 0, 0, 0), Words.word(2, 0, 1, 2, 0, 0, 0),
            Words.word(3, 0, 1, 2, 0, 0, 0), Words.word(4, 0, 1, 2, 0, 0, 0), Words.word(5, 0, 1, 2, 0, 0, 0),
            Words.word(6, 0, 1, 2, 0, 0, 0), Words.word(7, 0, 1, 2, 0, 0, 0), Words.word(9, 0, 1, 2, 0, 0, 9),
            Words.word(10, 0, 1, 2, 0, 0, 1), Words.word(10, 0, 1, 2, 0, 1, 1), Words.word(11, 0, 0, 1, 0, 0, 3),
            Words.word(13, 0, 1, 2, 0, 0, 0), Words.word(15, 0, 1, 2, 0, 0, 0), Words.word(19, 0, 1, 1, 0, 0, 0),
            Words.word(20, 0, 1, 2, 0, 1, 0), Words.word(22, 0, 1, 2, 0, 0, 0)};
        for (int word : written) {
            isLost(check, word);
        }
        theNeverWrittenOneIsNoPlaceToPut(check);
        check.finish();
    }

    private static QueuedFronts ready(int word) {
        QueuedFronts x = new QueuedFronts();
        x.set(1, 13);
        x.set(2, 6);
        x.set(4, 444);
        x.setSpace(1, 3);
        x.data(3, 3, 77);
        x.code(2, 9, Words.kindOnly(24));
        x.go(2, 9, true);
        x.run(1);
        x.code(1, 5, word);
        x.code(1, 6, Words.addNumber(4, 0, 0));
        x.go(1, 5, true);
        return x;
    }

    private static void isLost(Check check, int word) {
        int kind = word >>> 27;
        QueuedFronts kept = ready(word | 3 << 24);
        kept.run(1);
        check.due("kind " + kind + " writes what is not 0", kept.register(3) != 0, true);
        QueuedFronts x = ready(word);
        check.due("kind " + kind + ": run(1)", x.run(1), 0);
        check.due("kind " + kind + ": register(0)", x.register(0), 0);
        check.due("kind " + kind + ": register(1)", x.register(1), 13);
        check.due("kind " + kind + ": register(2)", x.register(2), 6);
        check.due("kind " + kind + ": run(1)", x.run(1), 0);
        check.due("kind " + kind + ": register 0 as A of the next one", x.register(4), 0);
    }

    private static void theNeverWrittenOneIsNoPlaceToPut(Check check) {
        QueuedFronts x = ready(Words.addNumber(3, 0, 5));
        check.due("set(0, 9)", x.set(0, 9), false);
        check.due("register(0)", x.register(0), 0);
        x.run(1);
        check.due("register 0 as A", x.register(3), 5);
    }
}
