/** Promises 3 and 13: data and peek. */
public final class DataTest {
    public static void main(String[] args) {
        Check check = new Check();
        everyWordIsItsOwn(check);
        noSuchWord(check);
        check.finish();
    }

    private static void everyWordIsItsOwn(Check check) {
        QueuedFronts x = new QueuedFronts();
        for (int space = 0; space <= 3; space++) {
            for (int offset = 0; offset <= 15; offset++) {
                check.due("data", x.data(space, offset, 1), true);
                check.due("data again", x.data(space, offset, 100 * space - offset - 50), true);
            }
        }
        for (int space = 0; space <= 3; space++) {
            for (int offset = 0; offset <= 15; offset++) {
                check.due("peek(" + space + ", " + offset + ")",
                    x.peek(space, offset), 100 * space - offset - 50);
            }
        }
        check.due("code is apart from data", x.word(2, 3), 0);
    }

    private static void noSuchWord(Check check) {
        QueuedFronts x = full();
        int[][] wrong = {{-1, 0}, {4, 0}, {0, -1}, {0, 16}, {3, 16}, {1, 31}, {1, -1},
            {Integer.MIN_VALUE, 0}, {Integer.MAX_VALUE, 5}, {0, Integer.MIN_VALUE}, {0, Integer.MAX_VALUE}};
        for (int[] place : wrong) {
            String at = "(" + place[0] + ", " + place[1] + ")";
            check.due("data" + at, x.data(place[0], place[1], 8), false);
            check.due("peek" + at, x.peek(place[0], place[1]), 0);
        }
        check.due("all after refusals", Words.all(x), Words.all(full()));
    }

    private static QueuedFronts full() {
        QueuedFronts x = new QueuedFronts();
        for (int space = 0; space <= 3; space++) {
            for (int offset = 0; offset <= 15; offset++) {
                x.data(space, offset, 9);
            }
        }
        return x;
    }
}
