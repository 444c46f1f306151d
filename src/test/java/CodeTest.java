/** Promises 2 and 12: code and word. */
public final class CodeTest {
    public static void main(String[] args) {
        Check check = new Check();
        everyPlaceHoldsItsOwnWord(check);
        aLaterWordReplacesAnEarlier(check);
        noSuchPlace(check);
        check.finish();
    }

    private static void everyPlaceHoldsItsOwnWord(Check check) {
        QueuedFronts x = new QueuedFronts();
        for (int space = 0; space <= 3; space++) {
            for (int offset = 0; offset <= 31; offset++) {
                check.due("code", x.code(space, offset, 1000 * space + offset - 7), true);
            }
        }
        for (int space = 0; space <= 3; space++) {
            for (int offset = 0; offset <= 31; offset++) {
                check.due("word(" + space + ", " + offset + ")",
                    x.word(space, offset), 1000 * space + offset - 7);
            }
        }
        check.due("data is apart from code", x.peek(1, 3), 0);
    }

    private static void aLaterWordReplacesAnEarlier(Check check) {
        QueuedFronts x = new QueuedFronts();
        x.code(3, 31, Integer.MAX_VALUE);
        check.due("code again", x.code(3, 31, Integer.MIN_VALUE), true);
        check.due("word(3, 31)", x.word(3, 31), Integer.MIN_VALUE);
    }

    private static void noSuchPlace(Check check) {
        QueuedFronts x = full();
        int[][] wrong = {{-1, 0}, {4, 0}, {0, -1}, {0, 32}, {3, 32}, {-1, 32}, {1, -1},
            {Integer.MIN_VALUE, 0}, {Integer.MAX_VALUE, 5}, {0, Integer.MIN_VALUE}, {0, Integer.MAX_VALUE}};
        for (int[] place : wrong) {
            String at = "(" + place[0] + ", " + place[1] + ")";
            check.due("code" + at, x.code(place[0], place[1], 8), false);
            check.due("word" + at, x.word(place[0], place[1]), 0);
        }
        check.due("all after refusals", Words.all(x), Words.all(full()));
    }

    private static QueuedFronts full() {
        QueuedFronts x = new QueuedFronts();
        for (int space = 0; space <= 3; space++) {
            for (int offset = 0; offset <= 31; offset++) {
                x.code(space, offset, 9);
            }
        }
        return x;
    }
}
