/** Promise 7 (interrupt), and what a step does with a pending interruption (promise 8). */
public final class InterruptTest {
    private static final int NULLIFY = Words.word(8, 0, 0, 0, Words.ALWAYS, 0, 0);

    public static void main(String[] args) {
        Check check = new Check();
        justOneIsPending(check);
        itWaitsUntilItIsLetIn(check);
        justOneIsPendingWhileShut(check);
        noStepsTakeNone(check);
        itWaitsThroughANullification(check);
        itWaitsThroughATrap(check);
        oneComesInTheMiddleOfAnother(check);
        itIsTakenBeforeANullification(check);
        itIsTakenWithABranchUnderWay(check);
        anInstructionLetsItIn(check);
        aReturnLetsItIn(check);
        check.finish();
    }

    private static void justOneIsPending(Check check) {
        QueuedFronts x = new QueuedFronts();
        x.go(0, 10, true);
        check.due("interrupt()", x.interrupt(), true);
        check.due("state(6)", x.state(6), 1);
        String before = Words.all(x);
        check.due("interrupt() again", x.interrupt(), false);
        check.due("all after the refusal", Words.all(x), before);
        check.due("run(1)", x.run(1), 1);
        check.due("state(6)", x.state(6), 0);
        check.due("interrupt() anew", x.interrupt(), true);
    }

    private static void itWaitsUntilItIsLetIn(Check check) {
        QueuedFronts x = new QueuedFronts();
        x.go(3, 8, false);
        x.interrupt();
        check.due("run(2) shut", x.run(2), 0);
        check.dueStates("shut", x, 0, 3, 10, 3, 11, 0, 0, 1);
        x.go(3, 8, true);
        check.due("still pending", x.state(6), 1);
        check.due("run(2) open", x.run(2), 1);
        check.dueStates("taken, then one instruction", x, 0, 0, 5, 0, 6, 0, 0, 0, 3, 8, 3, 9, 0, 1, 1);
        check.due("count(1)", x.count(1), 1);
        check.due("count(0)", x.count(0), 4);
    }

    private static void justOneIsPendingWhileShut(Check check) {
        QueuedFronts x = new QueuedFronts();
        check.due("interrupt() while shut", x.interrupt(), true);
        check.due("interrupt() again while shut", x.interrupt(), false);
        x.go(2, 9, true);
        check.due("run(9) takes just one", x.run(9), 1);
        check.due("count(1)", x.count(1), 1);
    }

    private static void noStepsTakeNone(Check check) {
        QueuedFronts x = new QueuedFronts();
        x.go(2, 9, true);
        x.interrupt();
        check.due("run(0)", x.run(0), 0);
        check.dueStates("still pending", x, 0, 2, 9, 2, 10, 0, 1, 1, 0, 0, 0, 0, 0, 0, 0);
        check.due("count(0)", x.count(0), 0);
        check.due("count(1)", x.count(1), 0);
    }

    private static void itWaitsThroughANullification(Check check) {
        QueuedFronts x = new QueuedFronts();
        x.code(1, 31, NULLIFY);
        x.code(1, 0, Words.addNumber(1, 0, 5));
        x.go(1, 31, false);
        x.run(1);
        x.interrupt();
        check.due("run(1) nullifies", x.run(1), 0);
        check.dueStates("nullified, and still pending", x, 0, 1, 1, 1, 2, 0, 0, 1, 0, 0, 0, 0, 0, 0, 0);
        check.due("count(6)", x.count(6), 1);
        check.due("register(1)", x.register(1), 0);
    }

    private static void itWaitsThroughATrap(Check check) {
        QueuedFronts x = new QueuedFronts();
        x.code(3, 7, Words.kindOnly(24));
        x.go(3, 7, false);
        x.interrupt();
        check.due("run(3) traps once, by the instruction", x.run(3), 1);
        check.dueStates("still pending", x, 0, 0, 18, 0, 19, 0, 0, 1, 3, 7, 3, 8, 0, 0, 4);
        check.due("count(1)", x.count(1), 0);
    }

    private static void oneComesInTheMiddleOfAnother(Check check) {
        QueuedFronts x = new QueuedFronts();
        x.go(3, 7, true);
        x.interrupt();
        x.run(1);
        check.due("interrupt() once the first is taken", x.interrupt(), true);
        check.due("run(5): taking the first has shut out the second", x.run(5), 0);
        check.dueStates("what the first saved stays", x, 0, 0, 9, 0, 10, 0, 0, 1, 3, 7, 3, 8, 0, 1, 1);
    }

    private static void itIsTakenBeforeANullification(Check check) {
        QueuedFronts x = new QueuedFronts();
        x.code(1, 31, NULLIFY);
        x.code(0, 4, Words.kindOnly(21));
        x.code(1, 0, Words.addNumber(1, 0, 5));
        x.go(1, 31, true);
        x.run(1);
        x.interrupt();
        check.due("run(1)", x.run(1), 1);
        check.dueStates("taken", x, 0, 0, 4, 0, 5, 0, 0, 0, 1, 0, 1, 1, 1, 1, 1);
        check.due("none nullified yet", x.count(6), 0);
        check.due("run(1) returns", x.run(1), 0);
        check.dueStates("returned", x, 0, 1, 0, 1, 1, 1, 1, 0, 1, 0, 1, 1, 1, 1, 1);
        check.due("run(1) nullifies", x.run(1), 0);
        check.due("count(6)", x.count(6), 1);
        check.due("register(1)", x.register(1), 0);
        check.dueStates("gone on", x, 0, 1, 1, 1, 2, 0, 1);
    }

    private static void itIsTakenWithABranchUnderWay(Check check) {
        QueuedFronts x = new QueuedFronts();
        x.setSpace(1, 3);
        x.code(2, 0, Words.word(17, 0, 0, 1, 0, 0, 20));
        x.code(0, 4, Words.kindOnly(21));
        x.go(2, 0, true);
        x.run(1);
        x.interrupt();
        x.run(1);
        check.dueStates("the branch is saved", x, 7, 2, 1, 3, 20, 0, 1, 1);
        x.run(1);
        check.dueStates("and comes back", x, 0, 2, 1, 3, 20, 0, 1);
        x.run(1);
        check.dueStates("and takes effect", x, 0, 3, 20, 3, 21, 0, 1);
    }

    private static void anInstructionLetsItIn(Check check) {
        QueuedFronts x = new QueuedFronts();
        x.code(0, 0, Words.word(20, 1, 0, 0, 0, 1, 0));
        x.interrupt();
        check.due("run(1)", x.run(1), 0);
        check.dueStates("let in, not yet taken", x, 4, 0, 1, 1);
        check.due("run(1)", x.run(1), 1);
        check.dueStates("taken", x, 0, 0, 4, 0, 5, 0, 0, 0, 0, 1, 0, 2, 0, 1, 1);
    }

    private static void aReturnLetsItIn(Check check) {
        QueuedFronts x = new QueuedFronts();
        x.code(0, 4, Words.kindOnly(21));
        x.go(1, 7, true);
        x.interrupt();
        x.run(1);
        x.interrupt();
        check.due("run(1) returns though one is pending", x.run(1), 0);
        check.dueStates("returned", x, 0, 1, 7, 1, 8, 0, 1, 1);
        check.due("run(1) takes the next", x.run(1), 1);
        check.due("count(1)", x.count(1), 2);
    }
}
