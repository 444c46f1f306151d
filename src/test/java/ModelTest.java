import java.util.Random;

/** Long mixed runs of calls (all promises at once), answered as the model of the document answers them. */
public final class ModelTest {
    private static final int OBJECTS = 3000;
    private static final int MOST_CALLS = 512;
    private static final int[] EDGES = {0, 1, -1, 2, 3, 4, 15, 16, 31, 32, Integer.MAX_VALUE, Integer.MIN_VALUE};

    private final Random random = new Random(20261115);
    private final Check check = new Check();
    private QueuedFronts x;
    private Model model;
    private int object = 0;
    private int calls = 0;

    public static void main(String[] args) {
        ModelTest test = new ModelTest();
        for (int i = 0; i < OBJECTS; i++) {
            test.oneObject();
        }
        test.check.finish();
    }

    private void oneObject() {
        x = new QueuedFronts();
        model = new Model();
        object++;
        calls = 0;
        while (calls < 100) {
            call(random.nextInt(8) < 6 ? 0 : 1 + random.nextInt(3));
            calls++;
        }
        while (calls < MOST_CALLS - 12) {
            call(random.nextInt(16));
            calls++;
        }
        for (int what = 0; what < 12; what++) {
            due("state", x.state(what), model.state(what));
        }
    }

    private void due(String call, long got, long want) {
        check.due("object " + object + ", call " + calls + ": " + call, got, want);
    }

    private void due(String call, boolean got, boolean want) {
        due(call, got ? 1 : 0, want ? 1 : 0);
    }

    private void call(int which) {
        int p = upTo(4);
        int q = upTo(32);
        int v = value();
        switch (which) {
            case 0: {
                int word = instruction();
                due("code", x.code(p, q, word), model.code(p, q, word));
                break;
            }
            case 1:
                q = upTo(16);
                due("data", x.data(p, q, v), model.data(p, q, v));
                break;
            case 2:
                p = upTo(8);
                due("set", x.set(p, v), model.set(p, v));
                break;
            case 3:
                q = upTo(4);
                due("setSpace", x.setSpace(p, q), model.setSpace(p, q));
                break;
            case 4: {
                boolean lets = random.nextBoolean();
                due("go", x.go(p, q, lets), model.go(p, q, lets));
                break;
            }
            case 5:
                due("interrupt", x.interrupt(), model.interrupt());
                break;
            case 6:
                p = random.nextInt(10) == 0 ? upTo(201) : random.nextInt(6);
                due("run", x.run(p), model.run(p));
                break;
            case 7:
            case 8:
                p = upTo(14);
                due("state", x.state(p), model.state(p));
                break;
            case 9:
                p = upTo(8);
                due("register", x.register(p), model.register(p));
                break;
            case 10:
                due("space", x.space(p), model.space(p));
                break;
            case 11:
                due("word", x.word(p, q), model.word(p, q));
                break;
            case 12:
                q = upTo(16);
                due("peek", x.peek(p, q), model.peek(p, q));
                break;
            case 13:
                p = upTo(7);
                due("count", x.count(p), model.count(p));
                break;
            case 14:
                if (random.nextInt(3) == 0) {
                    x.mark();
                    model.mark();
                }
                break;
            default:
                if (random.nextInt(3) == 0) {
                    due("back", x.back(), model.back());
                }
                break;
        }
    }

    /** Mostly 0 .. count - 1, at times beyond. */
    private int upTo(int count) {
        int choice = random.nextInt(40);
        return choice == 0 ? count : choice == 1 ? -1 : choice == 2 ? value() : random.nextInt(count);
    }

    private int value() {
        int choice = random.nextInt(4);
        return choice == 0 ? random.nextInt() : choice == 1 ? random.nextInt(40) - 10
            : EDGES[random.nextInt(EDGES.length)];
    }

    private int instruction() {
        int kind = random.nextInt(40) == 0 ? random.nextInt(32) : random.nextInt(25);
        int m = random.nextInt(5) == 0 ? random.nextInt(16384) : random.nextInt(24) - 8;
        return Words.word(kind, random.nextInt(8), random.nextInt(8), random.nextInt(8), random.nextInt(8),
            random.nextInt(2), m);
    }
}
