/**
 * A machine whose next two instructions stand in a queue, so that a branch takes effect one
 * instruction late, and whose instructions may nullify the one that follows.
 */
public final class QueuedFronts {
    public static final int NONE = -1;

    private static final int SPACES = 4;
    private static final int CODE_OFFSETS = 32;
    private static final int DATA_OFFSETS = 16;
    private static final int REGISTERS = 8;
    private static final int MOST_STEPS = 200;

    private static final int NO_TRAP = 0;
    private static final int INTERRUPTION = 1;
    private static final int NO_INT = 2;
    private static final int OUTSIDE_DATA = 3;
    private static final int ASKED_FOR = 4;
    private static final int NO_SUCH_KIND = 5;

    // The counts stand in one row, each at the number by which count() asks for it:
    // the causes 1 .. 5 lie between these two.
    private static final int STEPS = 0;
    private static final int NULLIFIED = 6;

    private final int[] codeWords = new int[SPACES * CODE_OFFSETS];
    private final int[] counts = new int[NULLIFIED + 1];
    private final Machine now = new Machine();
    private final Machine remembered = new Machine();
    private boolean remembers = false;

    public QueuedFronts() {
    }

    public boolean code(int space, int offset, int word) {
        if (!isPlace(space, offset)) {
            return false;
        }
        codeWords[Place.of(space, offset)] = word;
        return true;
    }

    public boolean data(int space, int offset, int word) {
        if (!isSpace(space) || !isDataOffset(offset)) {
            return false;
        }
        now.dataWords[dataIndex(space, offset)] = word;
        return true;
    }

    public boolean set(int r, int v) {
        if (!isRegister(r) || r == 0) {
            return false;
        }
        now.registers[r] = v;
        return true;
    }

    public boolean setSpace(int k, int space) {
        if (!isSpaceRegister(k) || !isSpace(space)) {
            return false;
        }
        now.spaceRegisters[k] = space;
        return true;
    }

    public boolean go(int space, int offset, boolean lets) {
        if (!isPlace(space, offset)) {
            return false;
        }
        now.flow.startAt(Place.of(space, offset), lets ? 1 : 0);
        return true;
    }

    public boolean interrupt() {
        if (now.pending == 1) {
            return false;
        }
        now.pending = 1;
        return true;
    }

    public int run(int n) {
        if (n < 0 || n > MOST_STEPS) {
            return NONE;
        }
        int traps = 0;
        for (int i = 0; i < n; i++) {
            if (step() != NO_TRAP) {
                traps++;
            }
        }
        return traps;
    }

    public int state(int what) {
        switch (what) {
            case 0: return Place.spaceOf(now.flow.front);
            case 1: return Place.offsetOf(now.flow.front);
            case 2: return Place.spaceOf(now.flow.back);
            case 3: return Place.offsetOf(now.flow.back);
            case 4: return now.flow.nullify;
            case 5: return now.flow.lets;
            case 6: return now.pending;
            case 7: return Place.spaceOf(now.saved.front);
            case 8: return Place.offsetOf(now.saved.front);
            case 9: return Place.spaceOf(now.saved.back);
            case 10: return Place.offsetOf(now.saved.back);
            case 11: return now.saved.nullify;
            case 12: return now.saved.lets;
            case 13: return now.savedCause;
            default: return NONE;
        }
    }

    public int register(int r) {
        return isRegister(r) ? now.registers[r] : 0;
    }

    public int space(int k) {
        return isSpaceRegister(k) ? now.spaceRegisters[k] : NONE;
    }

    public int word(int space, int offset) {
        return isPlace(space, offset) ? codeWords[Place.of(space, offset)] : 0;
    }

    public int peek(int space, int offset) {
        if (!isSpace(space) || !isDataOffset(offset)) {
            return 0;
        }
        return now.dataWords[dataIndex(space, offset)];
    }

    public int count(int cause) {
        return cause >= STEPS && cause <= NULLIFIED ? counts[cause] : NONE;
    }

    public void mark() {
        remembered.become(now);
        remembers = true;
    }

    public boolean back() {
        if (!remembers) {
            return false;
        }
        now.become(remembered);
        return true;
    }

    /** Answers the cause of the step's trap, or NO_TRAP. */
    private int step() {
        counts[STEPS]++;
        if (now.pending == 1 && now.flow.lets == 1) {
            now.pending = 0;
            return trap(INTERRUPTION);
        }
        if (now.flow.nullify == 1) {
            counts[NULLIFIED]++;
            now.flow.moveOn(false);
            return NO_TRAP;
        }
        int word = codeWords[now.flow.front];
        // Asked before anything is changed, since an instruction that traps leaves all as it was.
        int cause = now.causeOf(word);
        if (cause != NO_TRAP) {
            return trap(cause);
        }
        now.perform(word);
        return NO_TRAP;
    }

    private int trap(int cause) {
        counts[cause]++;
        now.enterTrap(cause);
        return cause;
    }

    private static boolean isSpace(int space) {
        return space >= 0 && space < SPACES;
    }

    private static boolean isPlace(int space, int offset) {
        return isSpace(space) && offset >= 0 && offset < CODE_OFFSETS;
    }

    private static boolean isDataOffset(int offset) {
        return offset >= 0 && offset < DATA_OFFSETS;
    }

    private static boolean isRegister(int r) {
        return r >= 0 && r < REGISTERS;
    }

    private static boolean isSpaceRegister(int k) {
        return k >= 0 && k < SPACES;
    }

    private static int dataIndex(int space, int offset) {
        return space * DATA_OFFSETS + offset;
    }

    /** A place is held as one number, which is also its index in the row of code. */
    private static final class Place {
        static int of(int space, int offset) {
            return (space & SPACES - 1) * CODE_OFFSETS + (offset & CODE_OFFSETS - 1);
        }

        static int spaceOf(int place) {
            return place / CODE_OFFSETS;
        }

        static int offsetOf(int place) {
            return place % CODE_OFFSETS;
        }

        static int behind(int place) {
            return of(spaceOf(place), offsetOf(place) + 1);
        }
    }

    /** The parts of a word as an instruction. */
    private static final class Part {
        static int kind(int word) {
            return word >>> 27;
        }

        static int t(int word) {
            return word >>> 24 & 7;
        }

        static int a(int word) {
            return word >>> 21 & 7;
        }

        static int b(int word) {
            return word >>> 18 & 7;
        }

        static int spaceRegister(int word) {
            return word >>> 18 & 3;
        }

        static int condition(int word) {
            return word >>> 15 & 7;
        }

        static int n(int word) {
            return word >>> 14 & 1;
        }

        static int m(int word) {
            return word << 18 >> 18;
        }
    }

    /** The numbers of the kinds; all above TRAP are no kinds. */
    private static final class Kind {
        static final int ADD = 0;
        static final int ADD_OR_TRAP = 1;
        static final int SUBTRACT = 2;
        static final int SUBTRACT_OR_TRAP = 3;
        static final int AND = 4;
        static final int OR = 5;
        static final int XOR = 6;
        static final int AND_NOT = 7;
        static final int CLEAR = 8;
        static final int ADD_NUMBER = 9;
        static final int SHIFT = 10;
        static final int LOAD = 11;
        static final int STORE = 12;
        static final int LINK = 13;
        static final int COMPARE = 14;
        static final int ADD_AND_BRANCH = 15;
        static final int JUMP = 16;
        static final int JUMP_TO_SPACE = 17;
        static final int WRITE_SPACE = 18;
        static final int READ_SPACE = 19;
        static final int CHANGE_LETS = 20;
        static final int RETURN = 21;
        static final int READ_SAVED = 22;
        static final int WRITE_SAVED = 23;
        static final int TRAP = 24;
    }

    private static final class Condition {
        static boolean holds(int condition, int x, int y) {
            switch (condition) {
                case 1: return x == y;
                case 2: return x < y;
                case 3: return x <= y;
                case 4: return unsigned(x) < unsigned(y);
                case 5: return unsigned(x) <= unsigned(y);
                case 6: return (x - y & 1) == 1;
                case 7: return true;
                default: return false;
            }
        }

        private static long unsigned(int x) {
            return x & 0xFFFFFFFFL;
        }
    }

    /** The queue and the flags: what a trap saves and a return brings back. */
    private static final class Flow {
        int front = 0;
        int back = 0;
        int nullify = 0;
        int lets = 0;

        void startAt(int place, int newLets) {
            front = place;
            back = Place.behind(place);
            nullify = 0;
            lets = newLets;
        }

        void moveOn(boolean nullifies) {
            moveOnTo(Place.behind(back), nullifies);
        }

        void moveOnTo(int newBack, boolean nullifies) {
            front = back;
            back = newBack;
            nullify = nullifies ? 1 : 0;
        }

        void become(Flow other) {
            front = other.front;
            back = other.back;
            nullify = other.nullify;
            lets = other.lets;
        }
    }

    /** All that mark() remembers, and what the instructions do to it. */
    private static final class Machine {
        final int[] registers = new int[REGISTERS];
        final int[] spaceRegisters = new int[SPACES];
        final int[] dataWords = new int[SPACES * DATA_OFFSETS];
        final Flow flow = new Flow();
        final Flow saved = new Flow();
        int savedCause = 0;
        int pending = 0;

        Machine() {
            flow.startAt(0, 0);
        }

        void become(Machine other) {
            System.arraycopy(other.registers, 0, registers, 0, REGISTERS);
            System.arraycopy(other.spaceRegisters, 0, spaceRegisters, 0, SPACES);
            System.arraycopy(other.dataWords, 0, dataWords, 0, SPACES * DATA_OFFSETS);
            flow.become(other.flow);
            saved.become(other.saved);
            savedCause = other.savedCause;
            pending = other.pending;
        }

        void enterTrap(int cause) {
            saved.become(flow);
            savedCause = cause;
            flow.startAt(Place.of(0, 4 * cause), 0);
        }

        /** Answers the cause of the trap that the instruction would make now, or NO_TRAP. */
        int causeOf(int word) {
            int kind = Part.kind(word);
            switch (kind) {
                case Kind.ADD_OR_TRAP:
                    return isInt((long) valueA(word) + valueB(word)) ? NO_TRAP : NO_INT;
                case Kind.SUBTRACT_OR_TRAP:
                    return isInt((long) valueA(word) - valueB(word)) ? NO_TRAP : NO_INT;
                case Kind.LOAD:
                case Kind.STORE:
                    return isDataOffset(valueA(word) + Part.m(word)) ? NO_TRAP : OUTSIDE_DATA;
                case Kind.TRAP:
                    return ASKED_FOR;
                default:
                    return kind > Kind.TRAP ? NO_SUCH_KIND : NO_TRAP;
            }
        }

        /** Does an instruction that does not trap. */
        void perform(int word) {
            int kind = Part.kind(word);
            if (kind <= Kind.SHIFT) {
                reckon(word);
            } else if (kind <= Kind.STORE) {
                moveData(word);
            } else if (kind <= Kind.JUMP_TO_SPACE) {
                branch(word);
            } else if (kind == Kind.RETURN) {
                flow.become(saved);
            } else {
                control(word);
            }
        }

        private void reckon(int word) {
            int kind = Part.kind(word);
            int a = valueA(word);
            int b = valueB(word);
            int result = resultOf(word, a, b);
            boolean compares = kind == Kind.SUBTRACT || kind == Kind.SUBTRACT_OR_TRAP
                || kind == Kind.CLEAR;
            boolean nullifies = compares
                ? Condition.holds(Part.condition(word), a, b)
                : Condition.holds(Part.condition(word), result, 0);
            setT(word, result);
            flow.moveOn(nullifies);
        }

        private static int resultOf(int word, int a, int b) {
            switch (Part.kind(word)) {
                case Kind.ADD:
                case Kind.ADD_OR_TRAP:
                    return a + b;
                case Kind.SUBTRACT:
                case Kind.SUBTRACT_OR_TRAP:
                    return a - b;
                case Kind.AND:
                    return a & b;
                case Kind.OR:
                    return a | b;
                case Kind.XOR:
                    return a ^ b;
                case Kind.AND_NOT:
                    return a & ~b;
                case Kind.ADD_NUMBER:
                    return a + Part.m(word);
                case Kind.SHIFT:
                    return shifted(a, Part.m(word) & 31, Part.n(word) == 1);
                default:
                    return 0;
            }
        }

        private static int shifted(int value, int distance, boolean right) {
            return right ? value >>> distance : value << distance;
        }

        private void moveData(int word) {
            int offset = valueA(word) + Part.m(word);
            // A wrong offset has trapped before, but no index is used unseen.
            if (isDataOffset(offset)) {
                int index = dataIndex(valueS(word), offset);
                if (Part.kind(word) == Kind.LOAD) {
                    setT(word, dataWords[index]);
                } else {
                    dataWords[index] = valueT(word);
                }
            }
            flow.moveOn(false);
        }

        private void branch(int word) {
            int kind = Part.kind(word);
            int sum = valueT(word) + valueA(word);
            boolean branches = takesBranch(word, sum);
            int next = branches ? targetOf(word) : Place.behind(flow.back);
            if (kind == Kind.LINK) {
                setT(word, Place.offsetOf(Place.behind(flow.back)));
            } else if (kind == Kind.ADD_AND_BRANCH) {
                setT(word, sum);
            }
            flow.moveOnTo(next, branchNullifies(word, branches));
        }

        private boolean takesBranch(int word, int sum) {
            switch (Part.kind(word)) {
                case Kind.COMPARE:
                    return Condition.holds(Part.condition(word), valueA(word), valueB(word));
                case Kind.ADD_AND_BRANCH:
                    return Condition.holds(Part.condition(word), sum, 0);
                default:
                    return true;
            }
        }

        private int targetOf(int word) {
            int frontSpace = Place.spaceOf(flow.front);
            int m = Part.m(word);
            switch (Part.kind(word)) {
                case Kind.JUMP:
                    return Place.of(frontSpace, valueA(word) + m);
                case Kind.JUMP_TO_SPACE:
                    return Place.of(valueS(word), valueA(word) + m);
                default:
                    return Place.of(frontSpace, Place.offsetOf(flow.front) + 2 + m);
            }
        }

        private static boolean branchNullifies(int word, boolean branches) {
            int kind = Part.kind(word);
            if (Part.n(word) == 0) {
                return false;
            }
            if (kind == Kind.COMPARE || kind == Kind.ADD_AND_BRANCH) {
                return Part.m(word) >= 0 == branches;
            }
            return true;
        }

        private void control(int word) {
            switch (Part.kind(word)) {
                case Kind.WRITE_SPACE:
                    spaceRegisters[Part.spaceRegister(word)] = valueA(word) & 3;
                    break;
                case Kind.READ_SPACE:
                    setT(word, valueS(word));
                    break;
                case Kind.CHANGE_LETS:
                    setT(word, flow.lets);
                    flow.lets = Part.n(word);
                    break;
                case Kind.READ_SAVED:
                    setT(word, savedThing(Part.m(word)));
                    break;
                case Kind.WRITE_SAVED:
                    setSavedThing(Part.m(word), valueA(word));
                    break;
                default:
                    break;
            }
            flow.moveOn(false);
        }

        private int savedThing(int m) {
            switch (m) {
                case 0: return Place.offsetOf(saved.front);
                case 1: return Place.offsetOf(saved.back);
                case 2: return Place.spaceOf(saved.front);
                case 3: return Place.spaceOf(saved.back);
                case 4: return saved.nullify + 2 * saved.lets;
                case 5: return savedCause;
                default: return 0;
            }
        }

        private void setSavedThing(int m, int value) {
            switch (m) {
                case 0:
                    saved.front = Place.of(Place.spaceOf(saved.front), value);
                    break;
                case 1:
                    saved.back = Place.of(Place.spaceOf(saved.back), value);
                    break;
                case 2:
                    saved.front = Place.of(value, Place.offsetOf(saved.front));
                    break;
                case 3:
                    saved.back = Place.of(value, Place.offsetOf(saved.back));
                    break;
                case 4:
                    saved.nullify = value & 1;
                    saved.lets = value >>> 1 & 1;
                    break;
                default:
                    break;
            }
        }

        private int valueA(int word) {
            return registers[Part.a(word)];
        }

        private int valueB(int word) {
            return registers[Part.b(word)];
        }

        private int valueT(int word) {
            return registers[Part.t(word)];
        }

        private int valueS(int word) {
            return spaceRegisters[Part.spaceRegister(word)];
        }

        private void setT(int word, int value) {
            int t = Part.t(word);
            if (t != 0) {
                registers[t] = value;
            }
        }

        private static boolean isInt(long value) {
            return value == (int) value;
        }
    }
}
