/** Promises 15 and 16: mark and back. */
public final class MarkBackTest {
    private static final int NULLIFY_AND_GO = Words.word(17, 0, 0, 1, 0, 1, 17);

    public static void main(String[] args) {
        Check check = new Check();
        nothingIsRemembered(check);
        markChangesNothing(check);
        allIsBroughtBackAgainAndAgain(check);
        codeAndCountsStay(check);
        aLaterMarkReplacesAnEarlier(check);
        theCodeOfNowIsDoneAfterBack(check);
        backToTheFirst(check);
        check.finish();
    }

    private static QueuedFronts inTheMiddle() {
        QueuedFronts x = new QueuedFronts();
        for (int r = 1; r <= 7; r++) {
            x.set(r, 1000 + r);
        }
        for (int k = 0; k <= 3; k++) {
            x.setSpace(k, 3 - k);
        }
        for (int i = 0; i <= 63; i++) {
            x.data(i / 16, i % 16, 500 + i);
        }
        x.code(3, 12, NULLIFY_AND_GO);
        x.go(3, 12, true);
        x.run(1);
        x.interrupt();
        x.run(1);
        x.code(1, 30, NULLIFY_AND_GO);
        x.go(1, 30, true);
        x.run(1);
        x.interrupt();
        return x;
    }

    private static void changeAll(QueuedFronts x, int by) {
        for (int r = 1; r <= 7; r++) {
            x.set(r, by - r);
        }
        for (int k = 0; k <= 3; k++) {
            x.setSpace(k, k + by & 3);
        }
        for (int i = 0; i <= 63; i++) {
            x.data(i / 16, i % 16, by + 2 * i);
        }
        x.run(2);
        x.code(0, 20 + by, Words.kindOnly(25 + by));
        x.go(0, 20 + by, false);
        x.run(2);
    }

    // What is due is read off a second object that had the same calls, so that no object
    // gets more calls than the document promises anything for.

    private static void nothingIsRemembered(Check check) {
        QueuedFronts x = inTheMiddle();
        check.due("back()", x.back(), false);
        check.due("back() again", x.back(), false);
        check.due("all after refusals", Words.all(x), Words.all(inTheMiddle()));
    }

    private static void markChangesNothing(Check check) {
        QueuedFronts x = inTheMiddle();
        check.dueStates("in the middle", x, 0, 1, 31, 2, 17, 1, 1, 1, 3, 13, 2, 17, 1, 1, 1);
        x.mark();
        check.due("mark() changes nothing", Words.all(x), Words.all(inTheMiddle()));
    }

    private static void allIsBroughtBackAgainAndAgain(Check check) {
        String then = Words.remembered(inTheMiddle());
        QueuedFronts x = inTheMiddle();
        x.mark();
        for (int by = 1; by <= 2; by++) {
            changeAll(x, by);
            check.due("back()", x.back(), true);
            check.due("as it was then", Words.remembered(x), then);
        }
        check.due("back() at once", x.back(), true);
        check.dueStates("as it was then", x, 0, 1, 31, 2, 17, 1, 1, 1, 3, 13, 2, 17, 1, 1, 1);
    }

    private static void codeAndCountsStay(Check check) {
        QueuedFronts x = new QueuedFronts();
        x.code(0, 5, 55);
        x.mark();
        changeAll(x, 1);
        x.code(0, 5, 66);
        x.code(0, 6, Words.word(0, 0, 0, 0, Words.ALWAYS, 0, 0));
        x.go(0, 6, false);
        x.run(2);
        String lasting = Words.lasting(x);
        check.due("back()", x.back(), true);
        check.due("code and counts", Words.lasting(x), lasting);
        check.due("word(0, 5)", x.word(0, 5), 66);
        check.due("count(6)", x.count(6), 1);
    }

    private static void theCodeOfNowIsDoneAfterBack(Check check) {
        QueuedFronts x = new QueuedFronts();
        x.code(0, 0, Words.addNumber(1, 0, 5));
        x.mark();
        x.run(1);
        x.code(0, 0, Words.addNumber(1, 0, 6));
        check.due("back()", x.back(), true);
        check.due("register(1)", x.register(1), 0);
        x.run(1);
        check.due("register(1) by the later word", x.register(1), 6);
        check.due("count(0)", x.count(0), 2);
    }

    private static void aLaterMarkReplacesAnEarlier(Check check) {
        QueuedFronts twin = inTheMiddle();
        changeAll(twin, 1);
        String later = Words.remembered(twin);
        QueuedFronts x = inTheMiddle();
        x.mark();
        changeAll(x, 1);
        x.mark();
        changeAll(x, 2);
        check.due("back()", x.back(), true);
        check.due("the later one", Words.remembered(x), later);
        x.run(5);
        check.due("back()", x.back(), true);
        check.due("the later one still", Words.remembered(x), later);
    }

    private static void backToTheFirst(Check check) {
        QueuedFronts x = new QueuedFronts();
        String first = Words.remembered(x);
        x.mark();
        changeAll(x, 2);
        x.interrupt();
        check.due("back()", x.back(), true);
        check.due("as at first", Words.remembered(x), first);
    }
}
