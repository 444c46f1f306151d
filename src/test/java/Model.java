import java.math.BigInteger;
import java.util.Arrays;

/**
 * The document over again, made otherwise than the program: places are pairs, a trap is an exception that
 * throws away a copy of the whole state, and numbers are reckoned without bounds and then cut.
 */
final class Model {
    private static final BigInteger WIDTH = BigInteger.ONE.shiftLeft(32);

    private static final class Trap extends Exception {
        private static final long serialVersionUID = 1;
        final int cause;

        Trap(int cause) {
            super(null, null, false, false);
            this.cause = cause;
        }
    }

    private static final class Core {
        int[] registers = new int[8];
        int[] spaces = {0, 0, 0, 0};
        int[][] data = new int[4][16];
        /** By the numbers of state(). */
        int[] state = {0, 0, 0, 1, 0, 0, 0, 0, 0, 0, 0, 0, 0, 0};

        Core copy() {
            Core copy = new Core();
            copy.registers = registers.clone();
            copy.spaces = spaces.clone();
            for (int i = 0; i < 4; i++) {
                copy.data[i] = data[i].clone();
            }
            copy.state = state.clone();
            return copy;
        }
    }

    private Core core = new Core();
    private Core kept = null;
    private final int[][] code = new int[4][32];
    private final int[] counts = new int[7];

    // what the instruction that is being done asks for
    private boolean nullifies;
    private int[] target;

    private static boolean in(int x, int count) {
        return x >= 0 && x < count;
    }

    boolean code(int space, int offset, int word) {
        if (in(space, 4) && in(offset, 32)) {
            code[space][offset] = word;
            return true;
        }
        return false;
    }

    boolean data(int space, int offset, int word) {
        if (in(space, 4) && in(offset, 16)) {
            core.data[space][offset] = word;
            return true;
        }
        return false;
    }

    boolean set(int r, int v) {
        if (in(r - 1, 7)) {
            core.registers[r] = v;
            return true;
        }
        return false;
    }

    boolean setSpace(int k, int space) {
        if (in(k, 4) && in(space, 4)) {
            core.spaces[k] = space;
            return true;
        }
        return false;
    }

    boolean go(int space, int offset, boolean lets) {
        if (in(space, 4) && in(offset, 32)) {
            int[] s = core.state;
            s[0] = space;
            s[1] = offset;
            s[2] = space;
            s[3] = (offset + 1) % 32;
            s[4] = 0;
            s[5] = lets ? 1 : 0;
            return true;
        }
        return false;
    }

    boolean interrupt() {
        boolean fresh = core.state[6] == 0;
        core.state[6] = 1;
        return fresh;
    }

    int run(int n) {
        if (!in(n, 201)) {
            return -1;
        }
        int before = traps();
        for (int i = 0; i < n; i++) {
            step();
        }
        return traps() - before;
    }

    private int traps() {
        return Arrays.stream(counts, 1, 6).sum();
    }

    int state(int what) {
        return in(what, 14) ? core.state[what] : -1;
    }

    int register(int r) {
        return in(r, 8) ? core.registers[r] : 0;
    }

    int space(int k) {
        return in(k, 4) ? core.spaces[k] : -1;
    }

    int word(int space, int offset) {
        return in(space, 4) && in(offset, 32) ? code[space][offset] : 0;
    }

    int peek(int space, int offset) {
        return in(space, 4) && in(offset, 16) ? core.data[space][offset] : 0;
    }

    int count(int cause) {
        return in(cause, 7) ? counts[cause] : -1;
    }

    void mark() {
        kept = core.copy();
    }

    boolean back() {
        if (kept == null) {
            return false;
        }
        core = kept.copy();
        return true;
    }

    private void step() {
        counts[0]++;
        Core before = core.copy();
        try {
            if (core.state[6] == 1 && core.state[5] == 1) {
                before.state[6] = 0;
                throw new Trap(1);
            }
            nullifies = false;
            target = null;
            boolean moves = true;
            if (core.state[4] == 1) {
                counts[6]++;
            } else {
                moves = instruct(code[core.state[0]][core.state[1]]);
            }
            if (moves) {
                int[] s = core.state;
                int[] next = target != null ? target : new int[] {s[2], (s[3] + 1) % 32};
                s[0] = s[2];
                s[1] = s[3];
                s[2] = next[0];
                s[3] = next[1];
                s[4] = nullifies ? 1 : 0;
            }
        } catch (Trap trap) {
            core = before;
            counts[trap.cause]++;
            int[] s = core.state;
            System.arraycopy(before.state.clone(), 0, s, 7, 6);
            s[13] = trap.cause;
            go(0, 4 * trap.cause, false);
        }
    }

    private static int bits(int word, int high, int low) {
        BigInteger whole = BigInteger.valueOf(word).mod(WIDTH);
        return whole.shiftRight(low).mod(BigInteger.ONE.shiftLeft(high - low + 1)).intValue();
    }

    private static boolean holds(int c, int x, int y) {
        BigInteger bx = BigInteger.valueOf(x);
        BigInteger by = BigInteger.valueOf(y);
        int order = bx.compareTo(by);
        int without = bx.mod(WIDTH).compareTo(by.mod(WIDTH));
        boolean[] answers = {false, order == 0, order < 0, order <= 0, without < 0, without <= 0,
            bx.subtract(by).testBit(0), true};
        return answers[c];
    }

    private void put(int t, int value) {
        core.registers[t] = value;
        core.registers[0] = 0;
    }

    private static int intOf(long value) throws Trap {
        if (value > Integer.MAX_VALUE || value < Integer.MIN_VALUE) {
            throw new Trap(2);
        }
        return (int) value;
    }

    /** Answers whether the queue moves on behind it. */
    private boolean instruct(int w) throws Trap {
        int kind = bits(w, 31, 27);
        int t = bits(w, 26, 24);
        int ra = bits(w, 23, 21);
        int rb = bits(w, 20, 18);
        int c = bits(w, 17, 15);
        boolean n = bits(w, 14, 14) == 1;
        int m = bits(w, 13, 0) >= 8192 ? bits(w, 13, 0) - 16384 : bits(w, 13, 0);
        int a = core.registers[ra];
        int b = core.registers[rb];
        int old = core.registers[t];
        int s = rb % 4;
        int[] st = core.state;
        if (kind <= 10) {
            long sum = (long) a + b;
            long difference = (long) a - b;
            int distance = Math.floorMod(m, 32);
            int result = switch (kind) {
                case 0 -> (int) sum;
                case 1 -> intOf(sum);
                case 2 -> (int) difference;
                case 3 -> intOf(difference);
                case 4 -> a & b;
                case 5 -> a | b;
                case 6 -> a ^ b;
                case 7 -> a & ~b;
                case 8 -> 0;
                case 9 -> (int) ((long) a + m);
                default -> n ? (int) (Integer.toUnsignedLong(a) >> distance) : (int) ((long) a << distance);
            };
            nullifies = kind == 2 || kind == 3 || kind == 8 ? holds(c, a, b) : holds(c, result, 0);
            put(t, result);
            return true;
        }
        if (kind == 11 || kind == 12) {
            int offset = (int) ((long) a + m);
            if (!in(offset, 16)) {
                throw new Trap(3);
            }
            if (kind == 11) {
                put(t, core.data[core.spaces[s]][offset]);
            } else {
                core.data[core.spaces[s]][offset] = old;
            }
            return true;
        }
        if (kind >= 13 && kind <= 17) {
            int[] near = {st[0], Math.floorMod(st[1] + 2 + m, 32)};
            int[] far = {kind == 16 ? st[0] : core.spaces[s], (int) Math.floorMod((long) a + m, 32L)};
            boolean taken = kind == 14 ? holds(c, a, b) : kind != 15 || holds(c, (int) ((long) old + a), 0);
            target = !taken ? null : kind >= 16 ? far : near;
            nullifies = n && (kind != 14 && kind != 15 || (m >= 0 ? taken : !taken));
            if (kind == 13) {
                put(t, (st[3] + 1) % 32);
            } else if (kind == 15) {
                put(t, (int) ((long) old + a));
            }
            return true;
        }
        // by m: where state() tells it
        int[] where = {8, 10, 7, 9};
        switch (kind) {
            case 18:
                core.spaces[s] = Math.floorMod(a, 4);
                return true;
            case 19:
                put(t, core.spaces[s]);
                return true;
            case 20:
                put(t, st[5]);
                st[5] = n ? 1 : 0;
                return true;
            case 21:
                System.arraycopy(st.clone(), 7, st, 0, 6);
                return false;
            case 22:
                put(t, in(m, 4) ? st[where[m]] : m == 4 ? st[11] + 2 * st[12] : m == 5 ? st[13] : 0);
                return true;
            case 23:
                if (in(m, 4)) {
                    st[where[m]] = Math.floorMod(a, m < 2 ? 32 : 4);
                } else if (m == 4) {
                    st[11] = Math.floorMod(a, 2);
                    st[12] = Math.floorMod(Math.floorDiv(a, 2), 2);
                }
                return true;
            default:
                throw new Trap(kind == 24 ? 4 : 5);
        }
    }
}
