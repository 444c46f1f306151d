/** Promise 6: go. */
public final class GoTest {
    public static void main(String[] args) {
        Check check = new Check();
        QueuedFronts x = new QueuedFronts();
        check.due("go(2, 5, true)", x.go(2, 5, true), true);
        check.dueStates("lets", x, 0, 2, 5, 2, 6, 0, 1);
        check.due("go(3, 31, false)", x.go(3, 31, false), true);
        check.dueStates("the offset behind 31 is 0 of the same space", x, 0, 3, 31, 3, 0, 0, 0);
        check.due("go(0, 0, true)", x.go(0, 0, true), true);
        check.dueStates("the first place", x, 0, 0, 0, 0, 1, 0, 1);
        nullificationIsClearedAndAllElseStays(check);
        noSuchPlace(check);
        check.finish();
    }

    private static QueuedFronts aboutToNullify() {
        QueuedFronts x = new QueuedFronts();
        x.code(1, 3, Words.kindOnly(24));
        x.code(0, 16, Words.word(8, 0, 0, 0, Words.ALWAYS, 0, 0));
        x.set(3, 33);
        x.setSpace(2, 1);
        x.data(2, 2, 22);
        x.go(1, 3, true);
        x.run(2);
        x.interrupt();
        return x;
    }

    private static void nullificationIsClearedAndAllElseStays(Check check) {
        QueuedFronts x = aboutToNullify();
        check.dueStates("before go", x, 0, 0, 17, 0, 18, 1, 0, 1, 1, 3, 1, 4, 0, 1, 4);
        String lasting = Words.lasting(x);
        check.due("go(2, 9, false)", x.go(2, 9, false), true);
        check.dueStates("after go", x, 0, 2, 9, 2, 10, 0, 0, 1, 1, 3, 1, 4, 0, 1, 4);
        check.due("register(3)", x.register(3), 33);
        check.due("space(2)", x.space(2), 1);
        check.due("peek(2, 2)", x.peek(2, 2), 22);
        check.due("code and counts", Words.lasting(x), lasting);
    }

    private static void noSuchPlace(Check check) {
        QueuedFronts x = aboutToNullify();
        String before = Words.all(x);
        int[][] wrong = {{-1, 0}, {4, 0}, {0, -1}, {0, 32}, {3, 32},
            {Integer.MIN_VALUE, 0}, {Integer.MAX_VALUE, 5}, {0, Integer.MIN_VALUE}, {0, Integer.MAX_VALUE}};
        for (int[] place : wrong) {
            check.due("go(" + place[0] + ", " + place[1] + ", true)",
                x.go(place[0], place[1], true), false);
        }
        check.due("all after refusals", Words.all(x), before);
    }
}
