/** Promise 8 (run): the steps, the queue, traps. What each kind does stands in the tests of kinds. */
public final class RunTest {
    public static void main(String[] args) {
        Check check = new Check();
        howManySteps(check);
        theQueueMovesOnWithinItsSpace(check);
        aNullifiedInstructionIsNotDone(check);
        nullifiedBranchesAndTrapsDoNothing(check);
        everyTrapSavesAndGoes(check);
        aTrapReplacesWhatWasSaved(check);
        aTrapReplacesASavedNullification(check);
        aTrapInTheShadowOfABranch(check);
        theMostSteps(check);
        interruptionsAndTrapsInOneAnswer(check);
        trapsAreCountedInTheAnswer(check);
        check.finish();
    }

    private static void howManySteps(Check check) {
        QueuedFronts x = new QueuedFronts();
        x.code(0, 2, Words.word(8, 0, 0, 0, Words.ALWAYS, 0, 0));
        String before = Words.all(x);
        for (int n : new int[] {-1, 201, Integer.MIN_VALUE, Integer.MAX_VALUE}) {
            check.due("run(" + n + ")", x.run(n), QueuedFronts.NONE);
        }
        check.due("run(0)", x.run(0), 0);
        check.due("all after refusals and no steps", Words.all(x), before);
        check.due("run(1)", x.run(1), 0);
        check.dueStates("one step", x, 0, 0, 1, 0, 2);
        check.due("run(200)", x.run(200), 0);
        check.due("count(0)", x.count(0), 201);
        check.dueStates("201 steps, modulo 32", x, 0, 0, 9, 0, 10);
    }

    private static void theQueueMovesOnWithinItsSpace(Check check) {
        QueuedFronts x = new QueuedFronts();
        x.go(2, 30, false);
        x.run(1);
        check.dueStates("the back wraps", x, 0, 2, 31, 2, 0);
        x.run(1);
        check.dueStates("the front wraps", x, 0, 2, 0, 2, 1);
    }

    private static void aNullifiedInstructionIsNotDone(Check check) {
        QueuedFronts x = new QueuedFronts();
        x.code(0, 0, Words.word(9, 1, 0, 0, Words.ALWAYS, 0, 1));
        x.code(0, 1, Words.word(9, 2, 0, 0, Words.ALWAYS, 0, 2));
        x.code(0, 2, Words.addNumber(3, 0, 3));
        check.due("run(1)", x.run(1), 0);
        check.dueStates("nullifies", x, 0, 0, 1, 0, 2, 1);
        check.due("run(1)", x.run(1), 0);
        check.dueStates("nullified", x, 0, 0, 2, 0, 3, 0);
        check.due("run(1)", x.run(1), 0);
        check.due("register(1)", x.register(1), 1);
        check.due("register(2)", x.register(2), 0);
        check.due("register(3)", x.register(3), 3);
        check.due("count(6)", x.count(6), 1);
        check.due("count(0)", x.count(0), 3);
    }

    private static void nullifiedBranchesAndTrapsDoNothing(Check check) {
        int[] nullified = {Words.word(16, 0, 0, 0, 0, 1, 20), Words.word(13, 5, 0, 0, 0, 1, 9),
            Words.kindOnly(21), Words.kindOnly(24), Words.kindOnly(31), Words.word(20, 5, 0, 0, 0, 1, 0)};
        for (int word : nullified) {
            QueuedFronts x = new QueuedFronts();
            x.code(1, 8, Words.word(0, 0, 0, 0, Words.ALWAYS, 0, 0));
            x.code(1, 9, word);
            x.go(1, 8, false);
            check.due("run(2)", x.run(2), 0);
            check.dueStates("nullified " + word, x, 0, 1, 10, 1, 11, 0, 0, 0, 0, 0, 0, 0, 0, 0, 0);
            check.due("register(5)", x.register(5), 0);
        }
    }

    private static void everyTrapSavesAndGoes(Check check) {
        int[] trapping = {0, 0, Words.word(1, 1, 2, 2, Words.ALWAYS, 1, 0),
            Words.word(11, 1, 0, 0, Words.ALWAYS, 1, 16), Words.word(24, 1, 2, 3, Words.ALWAYS, 1, 7),
            Words.word(25, 1, 2, 3, Words.ALWAYS, 1, 7)};
        for (int cause = 2; cause <= 5; cause++) {
            for (int lets = 0; lets <= 1; lets++) {
                QueuedFronts x = new QueuedFronts();
                x.set(1, 11);
                x.set(2, Integer.MAX_VALUE);
                x.code(3, 31, trapping[cause]);
                x.go(3, 31, lets == 1);
                check.due("run(1)", x.run(1), 1);
                check.dueStates("cause " + cause, x, 0, 0, 4 * cause, 0, 4 * cause + 1, 0, 0, 0,
                    3, 31, 3, 0, 0, lets, cause);
                check.due("register(1)", x.register(1), 11);
                for (int other = 1; other <= 5; other++) {
                    check.due("count(" + other + ")", x.count(other), other == cause ? 1 : 0);
                }
                check.due("count(0)", x.count(0), 1);
                check.due("count(6)", x.count(6), 0);
            }
        }
    }

    private static void aTrapReplacesWhatWasSaved(Check check) {
        QueuedFronts x = new QueuedFronts();
        x.code(2, 3, Words.kindOnly(24));
        x.code(0, 17, Words.kindOnly(30));
        x.go(2, 3, true);
        check.due("run(1)", x.run(1), 1);
        check.dueStates("the first", x, 7, 2, 3, 2, 4, 0, 1, 4);
        check.due("run(2)", x.run(2), 1);
        check.dueStates("the second", x, 7, 0, 17, 0, 18, 0, 0, 5);
        check.dueStates("the second goes", x, 0, 0, 20, 0, 21);
    }

    private static void aTrapReplacesASavedNullification(Check check) {
        QueuedFronts x = new QueuedFronts();
        x.code(2, 31, Words.word(8, 0, 0, 0, Words.ALWAYS, 0, 0));
        x.code(0, 4, Words.kindOnly(24));
        x.go(2, 31, true);
        x.run(1);
        x.interrupt();
        check.due("run(1)", x.run(1), 1);
        check.dueStates("the interruption", x, 7, 2, 0, 2, 1, 1, 1, 1);
        check.due("run(1)", x.run(1), 1);
        check.dueStates("the trap behind it", x, 0, 0, 16, 0, 17, 0, 0, 0, 0, 4, 0, 5, 0, 0, 4);
    }

    private static void theMostSteps(Check check) {
        QueuedFronts x = new QueuedFronts();
        check.due("run(199)", x.run(199), 0);
        check.due("count(0)", x.count(0), 199);
        check.due("run(200)", x.run(200), 0);
        check.due("count(0)", x.count(0), 399);
        check.due("run(201)", x.run(201), QueuedFronts.NONE);
        check.due("count(0)", x.count(0), 399);
        check.dueStates("399 steps, modulo 32", x, 0, 0, 15, 0, 16);
    }

    private static void interruptionsAndTrapsInOneAnswer(Check check) {
        QueuedFronts x = new QueuedFronts();
        x.code(0, 4, Words.word(8, 0, 0, 0, Words.ALWAYS, 0, 0));
        x.code(0, 6, Words.kindOnly(24));
        x.code(0, 16, Words.kindOnly(25));
        x.go(1, 0, true);
        x.interrupt();
        check.due("an interruption, two instructions, one nullified, two traps", x.run(6), 3);
        check.dueStates("in six steps", x, 0, 0, 21, 0, 22, 0, 0, 0, 0, 16, 0, 17, 0, 0, 5);
        check.due("count(0)", x.count(0), 6);
        check.due("count(6)", x.count(6), 1);
    }

    private static void aTrapInTheShadowOfABranch(Check check) {
        QueuedFronts x = new QueuedFronts();
        x.setSpace(3, 1);
        x.code(2, 3, Words.word(17, 0, 0, 3, 0, 0, 31));
        x.code(2, 4, Words.kindOnly(24));
        x.code(0, 16, Words.kindOnly(21));
        x.go(2, 3, true);
        check.due("run(2)", x.run(2), 1);
        check.dueStates("saved", x, 7, 2, 4, 1, 31, 0, 1, 4);
        x.code(2, 4, Words.NOTHING);
        check.due("run(1) returns", x.run(1), 0);
        check.dueStates("returned", x, 0, 2, 4, 1, 31, 0, 1);
        check.due("run(1)", x.run(1), 0);
        check.dueStates("at the target", x, 0, 1, 31, 1, 0);
    }

    private static void trapsAreCountedInTheAnswer(Check check) {
        QueuedFronts x = new QueuedFronts();
        x.code(0, 16, Words.kindOnly(24));
        x.go(0, 16, true);
        x.interrupt();
        check.due("run(7): the interruption, 12 nothings to come", x.run(7), 1);
        check.due("run(6)", x.run(6), 0);
        check.due("run(200): each lands on itself", x.run(200), 200);
        check.due("count(4)", x.count(4), 200);
        check.due("count(1)", x.count(1), 1);
        check.due("count(0)", x.count(0), 213);
    }
}
