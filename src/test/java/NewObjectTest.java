/** Promise 1: a new object is as at first. */
public final class NewObjectTest {
    public static void main(String[] args) {
        Check check = new Check();
        QueuedFronts x = new QueuedFronts();
        check.dueStates("new", x, 0, 0, 0, 0, 1, 0, 0, 0, 0, 0, 0, 0, 0, 0, 0);
        for (int r = 0; r <= 7; r++) {
            check.due("register(" + r + ")", x.register(r), 0);
        }
        for (int k = 0; k <= 3; k++) {
            check.due("space(" + k + ")", x.space(k), 0);
        }
        for (int cause = 0; cause <= 6; cause++) {
            check.due("count(" + cause + ")", x.count(cause), 0);
        }
        for (int space = 0; space <= 3; space++) {
            for (int offset = 0; offset <= 31; offset++) {
                check.due("word(" + space + ", " + offset + ")", x.word(space, offset), 0);
                check.due("peek(" + space + ", " + offset + ")", x.peek(space, offset), 0);
            }
        }
        check.due("back()", x.back(), false);
        twoObjectsShareNothing(check);
        check.finish();
    }

    private static void twoObjectsShareNothing(Check check) {
        QueuedFronts used = new QueuedFronts();
        QueuedFronts fresh = new QueuedFronts();
        String before = Words.all(fresh);
        used.code(0, 0, Words.kindOnly(24));
        used.data(1, 1, 5);
        used.set(1, 5);
        used.setSpace(1, 2);
        used.interrupt();
        used.mark();
        used.run(3);
        check.due("a second object", Words.all(fresh), before);
        check.due("back() of a second object", fresh.back(), false);
    }
}
