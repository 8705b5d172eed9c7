import java.util.Arrays;
import java.util.NoSuchElementException;

/**
 * Small programs of several threads on a memory whose stores may wait: all
 * outcomes that there can be, and to each one a shortest way.
 */
public final class OutcomeDesk {
    public static final int NONE = -1;

    private static final int THREADS = 4;
    private static final int WORDS = 4;
    private static final int REGISTERS = 4;
    private static final int MODELS = 3;
    private static final int MOVES = THREADS + THREADS * WORDS;

    /** The registers of all threads, then the words: what outcome() tells by number. */
    private static final int FIRST_WORD = THREADS * REGISTERS;
    private static final int ITEMS = FIRST_WORD + WORDS;
    private static final int WAY_LENGTH = ITEMS;

    /** Item 0 stands highest in its number, so that the order of outcomes is that of their numbers. */
    private static final int TOP_SHIFT = 2 * (ITEMS - 1);

    private static final int MOST_OF_THREAD = 6;
    private static final int MOST_OF_ALL = 12;
    private static final int MOST_WAITING = 2;
    private static final int MOST_STATES = 20000;

    /** Each instruction is one move, and each store at most one more when it leaves its buffer. */
    private static final int MOST_MOVES = 2 * MOST_OF_ALL;

    private static final int STORE = 0;
    private static final int STORE_REGISTER = 1;
    private static final int LOAD = 2;
    private static final int FENCE = 3;
    private static final int SWAP = 4;
    private static final int COUNT = 5;
    private static final int SKIP = 6;

    private final Program program;
    private final Machine machine;

    /** What was explored last, and the room for the next one: they change places when it succeeds. */
    private Space told;
    private Space spare;

    public OutcomeDesk() {
        program = new Program();
        machine = new Machine(program);
        told = new Space();
        spare = new Space();
    }

    public boolean add(int thread, int number, int a, int b) {
        if (!isThread(thread) || !isInstruction(number, a, b)) {
            return false;
        }
        return program.append(thread, number, a, b);
    }

    public int clear(int thread) {
        return isThread(thread) ? program.drop(thread) : NONE;
    }

    public int explore(int model) throws IllegalArgumentException, IllegalStateException {
        if (model < 0 || model >= MODELS) {
            throw new IllegalArgumentException("no such model");
        }
        machine.model = model;
        if (!spare.search(machine)) {
            throw new IllegalStateException("more than 20000 states");
        }
        Space before = told;
        told = spare;
        spare = before;
        return told.ended;
    }

    public int count(int what) {
        switch (what) {
            case 0:
                return program.total;
            case 1:
                return told.size;
            case 2:
                return told.ended;
            case 3:
                return told.branching;
            case 4:
                // states are found nearest first, so that none is farther than the last
                return told.stepsTo(told.size - 1);
            default:
                return NONE;
        }
    }

    public int outcome(int k, int what) throws NoSuchElementException {
        int state = told.endAt(k);
        if (state < 0 || what < 0 || what > WAY_LENGTH) {
            throw new NoSuchElementException("no such outcome, or nothing such of it");
        }
        return what == WAY_LENGTH ? told.stepsTo(state) : item(told.held[state], what);
    }

    public int move(int k, int i) throws NoSuchElementException {
        int state = told.endAt(k);
        int steps = told.stepsTo(state);
        if (i < 0 || i >= steps) {
            throw new NoSuchElementException("no such outcome, or no such move");
        }
        return told.stepBefore(state, steps - 1 - i);
    }

    public int may(int what, int v) {
        if (what < 0 || what >= ITEMS) {
            return NONE;
        }
        int found = 0;
        for (int k = 0; k < told.ended; k++) {
            if (item(told.held[told.ends[k]], what) == v) {
                found++;
            }
        }
        return found;
    }

    private static boolean isThread(int thread) {
        return thread >= 0 && thread < THREADS;
    }

    private static boolean isInstruction(int number, int a, int b) {
        if (number < STORE || number > SKIP) {
            return false;
        }
        if (number == FENCE) {
            return a == 0 && b == 0;
        }
        int leastOfA = number == SKIP ? 1 : 0;
        return a >= leastOfA && a <= 3 && b >= 0 && b <= 3;
    }

    private static int item(long held, int what) {
        return (int) (held >>> TOP_SHIFT - 2 * what) & 3;
    }

    private static long withItem(long held, int what, int value) {
        int shift = TOP_SHIFT - 2 * what;
        return held & ~(3L << shift) | (long) (value & 3) << shift;
    }

    /** The instructions of all threads, each one packed into a number. */
    private static final class Program {
        private final int[] codes = new int[THREADS * MOST_OF_THREAD];
        private final int[] lengths = new int[THREADS];
        int total = 0;

        boolean append(int thread, int number, int a, int b) {
            int length = lengths[thread];
            if (length >= MOST_OF_THREAD || total >= MOST_OF_ALL) {
                return false;
            }
            codes[thread * MOST_OF_THREAD + length] = number << 4 | a << 2 | b;
            lengths[thread] = length + 1;
            total++;
            return true;
        }

        int drop(int thread) {
            int length = lengths[thread];
            lengths[thread] = 0;
            total -= length;
            return length;
        }

        int lengthOf(int thread) {
            return lengths[thread];
        }

        int codeAt(int thread, int place) {
            return codes[thread * MOST_OF_THREAD + place];
        }
    }

    /**
     * Makes one move on a state. A state is two numbers: held has two bits for
     * each register and word; lanes has for each thread where it is (3 bits),
     * how many stores wait (2 bits) and these, the earliest one lowest (4 bits
     * each: word and value). Places of a buffer that are not used are 0, so
     * that equal states are equal numbers.
     */
    private static final class Machine {
        private static final int LANE_BITS = 13;
        private static final int PLACE_MASK = 7;
        private static final int WAITING_SHIFT = 3;
        private static final int BUFFER_SHIFT = 5;
        private static final int ENTRY_BITS = 4;

        private final Program program;
        int model = 0;
        long held = 0;
        long lanes = 0;

        Machine(Program program) {
            this.program = program;
        }

        /** Whether the move can be made; if so, held and lanes are the state behind it. */
        boolean step(long heldBefore, long lanesBefore, int number) {
            held = heldBefore;
            lanes = lanesBefore;
            if (number < THREADS) {
                return goOn(number);
            }
            return release((number - THREADS) / WORDS, (number - THREADS) % WORDS);
        }

        private boolean goOn(int thread) {
            int place = laneOf(thread) & PLACE_MASK;
            int length = program.lengthOf(thread);
            if (place >= length) {
                return false;
            }
            int code = program.codeAt(thread, place);
            int a = code >> 2 & 3;
            int register = thread * REGISTERS + (code & 3);
            int skipped = 0;
            switch (code >> 4) {
                case STORE:
                    if (!store(thread, a, code & 3)) {
                        return false;
                    }
                    break;
                case STORE_REGISTER:
                    if (!store(thread, a, item(held, register))) {
                        return false;
                    }
                    break;
                case LOAD:
                    held = withItem(held, register, seen(thread, a));
                    break;
                case SKIP:
                    skipped = item(held, register) == 0 ? a : 0;
                    break;
                default:
                    if (waitingIn(laneOf(thread)) > 0) {
                        return false;
                    }
                    atOnce(code >> 4, a, register);
                    break;
            }
            // past the end there is one place only, however many were to be skipped
            setPlace(thread, Math.min(place + 1 + skipped, length));
            return true;
        }

        private boolean store(int thread, int word, int value) {
            if (model == 0) {
                held = withItem(held, FIRST_WORD + word, value);
                return true;
            }
            int lane = laneOf(thread);
            int waiting = waitingIn(lane);
            if (waiting >= MOST_WAITING) {
                return false;
            }
            int entry = word << 2 | value;
            int added = 1 << WAITING_SHIFT | entry << BUFFER_SHIFT + ENTRY_BITS * waiting;
            setLane(thread, lane + added);
            return true;
        }

        private int seen(int thread, int word) {
            int lane = laneOf(thread);
            for (int i = waitingIn(lane) - 1; i >= 0; i--) {
                int entry = entryIn(lane, i);
                if (entry >> 2 == word) {
                    return entry & 3;
                }
            }
            return item(held, FIRST_WORD + word);
        }

        /** FENCE has nothing left to do when the buffer is empty. */
        private void atOnce(int number, int word, int register) {
            int inWord = item(held, FIRST_WORD + word);
            if (number == SWAP) {
                held = withItem(held, FIRST_WORD + word, item(held, register));
                held = withItem(held, register, inWord);
            } else if (number == COUNT) {
                held = withItem(held, FIRST_WORD + word, inWord + 1);
                held = withItem(held, register, inWord);
            }
        }

        private boolean release(int thread, int word) {
            int lane = laneOf(thread);
            int waiting = waitingIn(lane);
            int inReach = model == 1 ? Math.min(waiting, 1) : waiting;
            for (int i = 0; i < inReach; i++) {
                int entry = entryIn(lane, i);
                if (entry >> 2 == word) {
                    held = withItem(held, FIRST_WORD + word, entry & 3);
                    setLane(thread, without(lane, i));
                    return true;
                }
            }
            return false;
        }

        /** A buffer has two places: the other store, if there is one, is the earliest then. */
        private static int without(int lane, int i) {
            int stays = entryIn(lane, 1 - i);
            int waiting = waitingIn(lane) - 1;
            return lane & PLACE_MASK | waiting << WAITING_SHIFT | stays << BUFFER_SHIFT;
        }

        private int laneOf(int thread) {
            return (int) (lanes >>> LANE_BITS * thread) & (1 << LANE_BITS) - 1;
        }

        private void setLane(int thread, int lane) {
            int shift = LANE_BITS * thread;
            long mask = (1L << LANE_BITS) - 1 << shift;
            lanes = lanes & ~mask | (long) lane << shift;
        }

        private void setPlace(int thread, int place) {
            setLane(thread, laneOf(thread) & ~PLACE_MASK | place);
        }

        private static int waitingIn(int lane) {
            return lane >> WAITING_SHIFT & 3;
        }

        private static int entryIn(int lane, int i) {
            return lane >> BUFFER_SHIFT + ENTRY_BITS * i & 15;
        }
    }

    /**
     * The states of one exploration in the order in which they are found. Its
     * rows grow with the states and are used again by later explorations.
     */
    private static final class Space {
        /** Five states for eight slots: with four times as many four times over, the limit fits in. */
        private static final int FIRST_ROOM = 80;
        private static final int FIRST_SLOTS = 128;
        private static final int GROWTH = 4;

        private static final long MIX_HELD = 0x9E3779B97F4A7C15L;
        private static final long MIX_LANES = 0xC2B2AE3D27D4EB4FL;

        long[] held = new long[0];
        private long[] lanes = new long[0];
        /** The state that each one was found from, times MOVES, plus the move. */
        private int[] from = new int[0];
        /** The states that are outcomes, in their order when the search is over. */
        int[] ends = new int[0];
        /** Where to find a state by its numbers: 1 more than its index, or 0. */
        private int[] table = new int[0];
        /** How many states and slots of the rows this search may use by now. */
        private int room = 0;
        private int slots = 0;

        int size = 0;
        int ended = 0;
        int branching = 0;

        /**
         * Whether all states could be found. States wait in the order of their
         * least ways and the moves are tried from the least on; so the first
         * way that reaches a state is its shortest one, and of these the least.
         */
        boolean search(Machine machine) {
            size = 0;
            ended = 0;
            branching = 0;
            setRoom(FIRST_ROOM, FIRST_SLOTS);
            meet(0L, 0L, 0);
            for (int state = 0; state < MOST_STATES; state++) {
                if (state >= size) {
                    break;
                }
                if (!expand(state, machine)) {
                    return false;
                }
            }
            sortEnds();
            return true;
        }

        private boolean expand(int state, Machine machine) {
            int made = 0;
            for (int number = 0; number < MOVES; number++) {
                if (machine.step(held[state], lanes[state], number)) {
                    made++;
                    if (!meet(machine.held, machine.lanes, state * MOVES + number)) {
                        return false;
                    }
                }
            }
            if (made > 1) {
                branching++;
            }
            // a thread is only held up by its own buffer, which can always be
            // emptied: where no move is left, nothing is left at all
            if (made == 0) {
                ends[ended] = state;
                ended++;
            }
            return true;
        }

        /** False if the state is new and would be too many. */
        private boolean meet(long newHeld, long newLanes, int origin) {
            int slot = slotOf(newHeld, newLanes);
            if (table[slot] != 0) {
                return true;
            }
            if (size >= MOST_STATES) {
                return false;
            }
            if (size >= room) {
                setRoom(room * GROWTH, slots * GROWTH);
                slot = slotOf(newHeld, newLanes);
            }
            held[size] = newHeld;
            lanes[size] = newLanes;
            from[size] = origin;
            size++;
            table[slot] = size;
            return true;
        }

        /** The slot of a state, or the empty one where it is to go: there are always some. */
        private int slotOf(long ofHeld, long ofLanes) {
            long mixed = ofHeld * MIX_HELD + ofLanes * MIX_LANES;
            mixed = (mixed ^ mixed >>> 29) * MIX_HELD;
            int slot = (int) (mixed >>> 40) & slots - 1;
            for (int tried = 0; tried < slots; tried++) {
                int state = table[slot] - 1;
                if (state < 0 || held[state] == ofHeld && lanes[state] == ofLanes) {
                    break;
                }
                slot = slot + 1 & slots - 1;
            }
            return slot;
        }

        private void setRoom(int newRoom, int newSlots) {
            room = newRoom;
            slots = newSlots;
            if (held.length < room) {
                held = Arrays.copyOf(held, room);
                lanes = Arrays.copyOf(lanes, room);
                from = Arrays.copyOf(from, room);
                ends = Arrays.copyOf(ends, room);
                table = new int[slots];
            }
            // only the slots in use are emptied: a small search stays cheap behind a large one
            for (int slot = 0; slot < slots; slot++) {
                table[slot] = 0;
            }
            for (int state = 0; state < size; state++) {
                table[slotOf(held[state], lanes[state])] = state + 1;
            }
        }

        /** A heap sort: it needs no room of its own. */
        private void sortEnds() {
            for (int top = ended / 2 - 1; top >= 0; top--) {
                sink(top, ended);
            }
            for (int last = ended - 1; last > 0; last--) {
                swapEnds(0, last);
                sink(0, last);
            }
        }

        private void sink(int top, int bound) {
            int at = top;
            while (2 * at + 1 < bound) {
                int child = 2 * at + 1;
                if (child + 1 < bound && heldAtEnd(child + 1) > heldAtEnd(child)) {
                    child++;
                }
                if (heldAtEnd(child) <= heldAtEnd(at)) {
                    break;
                }
                swapEnds(at, child);
                at = child;
            }
        }

        private long heldAtEnd(int k) {
            return held[ends[k]];
        }

        private void swapEnds(int i, int j) {
            int state = ends[i];
            ends[i] = ends[j];
            ends[j] = state;
        }

        /** The state that is outcome k, or NONE. */
        int endAt(int k) {
            return k >= 0 && k < ended ? ends[k] : NONE;
        }

        /** How many moves the way to a state has: 0 for the beginning, and for NONE. */
        int stepsTo(int state) {
            int steps = 0;
            for (int at = state; at > 0 && steps < MOST_MOVES; at = from[at] / MOVES) {
                steps++;
            }
            return steps;
        }

        /** The move of the way to a state that has so many others behind it. */
        int stepBefore(int state, int behind) {
            int at = state;
            for (int n = 0; n < behind; n++) {
                at = from[at] / MOVES;
            }
            return from[at] % MOVES;
        }
    }
}
