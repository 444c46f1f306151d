/** Promise 9: state. */
public final class StateTest {
    public static void main(String[] args) {
        Check check = new Check();
        QueuedFronts x = new QueuedFronts();
        x.setSpace(1, 3);
        x.code(2, 29, Words.word(17, 0, 0, 1, 0, 1, 17));
        x.go(2, 29, true);
        x.run(1);
        x.interrupt();
        check.dueStates("all different", x, 0, 2, 30, 3, 17, 1, 1, 1, 0, 0, 0, 0, 0, 0, 0);
        x.run(1);
        x.interrupt();
        check.dueStates("saved", x, 0, 0, 4, 0, 5, 0, 0, 1, 2, 30, 3, 17, 1, 1, 1);
        String before = Words.all(x);
        for (int what : new int[] {-1, 14, 15, Integer.MIN_VALUE, Integer.MAX_VALUE}) {
            check.due("state(" + what + ")", x.state(what), QueuedFronts.NONE);
        }
        check.due("asking changes nothing", Words.all(x), before);
        check.finish();
    }
}
