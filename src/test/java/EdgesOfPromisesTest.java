import java.util.Arrays;
import java.util.function.Consumer;

/**
 * The promises 1 to 8: each sentence that names a boundary case has a test of
 * its own here, which names the promise. A call that is refused must change
 * nothing: a desk that got it and a twin that did not answer the same then.
 */
public final class EdgesOfPromisesTest extends Checks {
    private static final int STORE = 0;
    private static final int STORE_REGISTER = 1;
    private static final int LOAD = 2;
    private static final int FENCE = 3;
    private static final int SWAP = 4;
    private static final int COUNT = 5;
    private static final int SKIP = 6;

    private static final int STAGES = 6;

    public static void main(String[] args) {
        runAll(EdgesOfPromisesTest.class);
    }

    /** A desk in each of the states in which a call may be refused. */
    private static OutcomeDesk stage(int stage) {
        OutcomeDesk desk = new OutcomeDesk();
        if (stage == 1) {
            fill(desk, Programs.STORE_AND_LOAD);
        } else if (stage == 2) {
            fill(desk, Programs.STORE_AND_LOAD);
            same("explore", "4", explore(desk, 1));
        } else if (stage == 3) {
            fill(desk, Programs.STORE_AND_LOAD);
            same("explore", "3", explore(desk, 0));
            desk.clear(0);
            fill(desk, row(2, COUNT, 0, 1));
        } else if (stage == 4) {
            fill(desk, Programs.TWO_FULL_THREADS);
        } else if (stage == 5) {
            fill(desk, Programs.STORE_AND_LOAD);
            same("explore", "4", explore(desk, 2));
            refill(desk, Programs.TWO_FULL_THREADS);
        }
        return desk;
    }

    /** What a desk answers from now on: what was told before, what it has now, and how it goes on. */
    private static String later(OutcomeDesk desk) {
        StringBuilder text = new StringBuilder(allTold(desk));
        for (int model = 2; model >= 0; model--) {
            text.append(explore(desk, model)).append(allTold(desk));
        }
        for (int thread = 0; thread < 4; thread++) {
            text.append(desk.add(thread, COUNT, 3, thread));
        }
        text.append(explore(desk, 1)).append(allTold(desk));
        for (int thread = 0; thread < 4; thread++) {
            text.append(' ').append(desk.clear(thread));
        }
        return text.append(desk.count(0)).toString();
    }

    private static void changesNothing(Consumer<OutcomeDesk> refused) {
        for (int stage = 0; stage < STAGES; stage++) {
            OutcomeDesk desk = stage(stage);
            refused.accept(desk);
            same("what stage " + stage + " answers later", later(stage(stage)), later(desk));
        }
    }

    private static void refusesAdd(int thread, int number, int a, int b) {
        String call = "add" + Arrays.toString(row(thread, number, a, b));
        changesNothing(desk -> same(call, false, desk.add(thread, number, a, b)));
    }

    private static void takes(int thread, int number, int a, int b) {
        OutcomeDesk desk = new OutcomeDesk();
        same("add" + Arrays.toString(row(thread, number, a, b)), true, desk.add(thread, number, a, b));
        same("count(0)", 1, desk.count(0));
        same("clear", 1, desk.clear(thread));
    }

    // Promise 1: "No INSTRUCTIONS; nothing was explored."

    static void promise1NoInstructions() {
        OutcomeDesk desk = new OutcomeDesk();
        same("count(0)", 0, desk.count(0));
        for (int thread = 0; thread < 4; thread++) {
            same("clear(" + thread + ")", 0, desk.clear(thread));
        }
    }

    static void promise1AllPlacesAreFree() {
        fill(new OutcomeDesk(), Programs.TWO_FULL_THREADS);
        fill(new OutcomeDesk(), Programs.FAR_TOO_MANY);
    }

    static void promise1NothingIsCounted() {
        counts(new OutcomeDesk(), 0, 0, 0, 0, 0);
    }

    static void promise1ThereIsNoOutcome() {
        OutcomeDesk desk = new OutcomeDesk();
        for (int k = -1; k <= 1; k++) {
            for (int what = -1; what <= 21; what++) {
                same("outcome(" + k + ", " + what + ")", NO_SUCH_ELEMENT, outcome(desk, k, what));
            }
        }
    }

    static void promise1ThereIsNoMove() {
        OutcomeDesk desk = new OutcomeDesk();
        for (int k = -1; k <= 1; k++) {
            for (int i = -1; i <= 1; i++) {
                same("move(" + k + ", " + i + ")", NO_SUCH_ELEMENT, move(desk, k, i));
            }
        }
    }

    static void promise1NoOutcomeHasAnything() {
        OutcomeDesk desk = new OutcomeDesk();
        for (int what = 0; what < 20; what++) {
            for (int v = -1; v <= 4; v++) {
                same("may(" + what + ", " + v + ")", 0, desk.may(what, v));
            }
        }
    }

    static void promise1AddAndClearExploreNothing() {
        OutcomeDesk desk = desk(Programs.STORE_AND_LOAD);
        desk.clear(1);
        counts(desk, 2, 0, 0, 0, 0);
        same("outcome", NO_SUCH_ELEMENT, outcome(desk, 0, 0));
        same("move", NO_SUCH_ELEMENT, move(desk, 0, 0));
        same("may", 0, desk.may(0, 0));
    }

    static void promise1ObjectsShareNothing() {
        OutcomeDesk one = desk(Programs.STORE_AND_LOAD);
        same("explore", "4", explore(one, 1));
        OutcomeDesk other = new OutcomeDesk();
        counts(other, 0, 0, 0, 0, 0);
        String told = allTold(one);
        fill(other, Programs.TWO_FULL_THREADS);
        explore(other, 0);
        same("what the first one tells", told, allTold(one));
        same("count(0) of the first one", 4, one.count(0));
    }

    // Promise 2: "false, changing nothing, if there is no such one, or thread, or it would be too many"

    static void promise2Threads0To3() {
        for (int thread = 0; thread < 4; thread++) {
            takes(thread, STORE, 0, 0);
            takes(thread, FENCE, 0, 0);
        }
    }

    static void promise2NoThreadBelow0OrAbove3() {
        for (int thread : NOT_0_TO_3) {
            refusesAdd(thread, STORE, 0, 0);
        }
    }

    static void promise2Numbers0To6() {
        for (int number = 0; number <= 6; number++) {
            takes(0, number, number == SKIP ? 1 : 0, 0);
        }
    }

    static void promise2NoNumberBelow0() {
        for (int number : new int[] {-1, -2, -7, -16, Integer.MIN_VALUE, Integer.MIN_VALUE + 6}) {
            refusesAdd(0, number, 0, 0);
            refusesAdd(0, number, 1, 1);
        }
    }

    static void promise2NoNumberAbove6() {
        for (int number : new int[] {7, 8, 16, 256, 65536, 1 << 28, 1 << 30, Integer.MAX_VALUE}) {
            refusesAdd(0, number, 0, 0);
            refusesAdd(0, number, 1, 1);
        }
    }

    static void promise2Words0To3() {
        for (int number : new int[] {STORE, STORE_REGISTER, LOAD, SWAP, COUNT}) {
            for (int a = 0; a < 4; a++) {
                takes(1, number, a, 3);
            }
        }
    }

    static void promise2NoWordBelow0OrAbove3() {
        for (int number : new int[] {STORE, STORE_REGISTER, LOAD, SWAP, COUNT}) {
            for (int a : NOT_0_TO_3) {
                refusesAdd(1, number, a, 0);
            }
        }
    }

    static void promise2StoredNumbersAndRegisters0To3() {
        for (int number : new int[] {STORE, STORE_REGISTER, LOAD, SWAP, COUNT, SKIP}) {
            for (int b = 0; b < 4; b++) {
                takes(2, number, 3, b);
            }
        }
    }

    static void promise2NoStoredNumberOrRegisterBelow0OrAbove3() {
        for (int number : new int[] {STORE, STORE_REGISTER, LOAD, SWAP, COUNT, SKIP}) {
            for (int b : NOT_0_TO_3) {
                refusesAdd(2, number, 1, b);
            }
        }
    }

    static void promise2AFenceHas0And0() {
        takes(3, FENCE, 0, 0);
    }

    static void promise2NoFenceWithAnotherAOrB() {
        for (int other = 1; other < 4; other++) {
            refusesAdd(3, FENCE, other, 0);
            refusesAdd(3, FENCE, 0, other);
            refusesAdd(3, FENCE, other, other);
        }
        for (int other : NOT_0_TO_3) {
            refusesAdd(3, FENCE, other, 0);
            refusesAdd(3, FENCE, 0, other);
        }
        refusesAdd(3, FENCE, -1, 1);
    }

    static void promise2SkipOf1To3() {
        for (int a = 1; a <= 3; a++) {
            for (int b = 0; b <= 3; b++) {
                takes(0, SKIP, a, b);
            }
        }
    }

    static void promise2NoSkipOf0OrLessOrOf4OrMore() {
        for (int b = 0; b <= 3; b++) {
            refusesAdd(0, SKIP, 0, b);
        }
        for (int a : NOT_0_TO_3) {
            refusesAdd(0, SKIP, a, 0);
        }
    }

    static void promise2SixOfEachThread() {
        for (int thread = 0; thread < 4; thread++) {
            OutcomeDesk desk = new OutcomeDesk();
            for (int n = 1; n <= 6; n++) {
                same("add " + n, true, desk.add(thread, COUNT, 0, 3));
                same("count(0)", n, desk.count(0));
            }
            same("explore", "1", explore(desk, 0));
            same("all six are there", 6, outcome(desk, 0, 20));
            same("the sixth counted", "2", outcome(desk, 0, 16));
        }
    }

    static void promise2NoSeventhOfAThread() {
        for (int thread = 0; thread < 4; thread++) {
            OutcomeDesk desk = new OutcomeDesk();
            OutcomeDesk twin = new OutcomeDesk();
            for (int n = 1; n <= 6; n++) {
                fill(desk, row(thread, COUNT, 0, 3));
                fill(twin, row(thread, COUNT, 0, 3));
            }
            for (int number = 0; number <= 6; number++) {
                same("the seventh one", false, desk.add(thread, number, number == SKIP ? 1 : 0, 0));
            }
            same("count(0)", 6, desk.count(0));
            same("what it answers later", later(twin), later(desk));
        }
    }

    static void promise2ASeventhOfAThreadLeavesPlacesToOthers() {
        OutcomeDesk desk = new OutcomeDesk();
        for (int n = 0; n < 10; n++) {
            same("add " + n, n < 6, desk.add(2, LOAD, 0, 0));
        }
        for (int n = 0; n < 10; n++) {
            same("add " + n, n < 6, desk.add(1, LOAD, 0, 0));
        }
        same("count(0)", 12, desk.count(0));
    }

    static void promise2TwelveOfAll() {
        int[][] sharesOfThreads = {{6, 6, 0, 0}, {0, 0, 6, 6}, {3, 3, 3, 3}, {6, 5, 1, 0}, {5, 1, 5, 1}, {0, 4, 4, 4}};
        for (int[] shares : sharesOfThreads) {
            OutcomeDesk desk = filledBy(shares);
            same("count(0)", 12, desk.count(0));
            same("explore", "1", explore(desk, 0));
            same("all twelve are there", 12, outcome(desk, 0, 20));
        }
    }

    static void promise2NoThirteenthOfAll() {
        int[][] sharesOfThreads = {{6, 6, 0, 0}, {0, 0, 6, 6}, {3, 3, 3, 3}, {6, 5, 1, 0}, {5, 1, 5, 1}, {0, 4, 4, 4}};
        for (int[] shares : sharesOfThreads) {
            OutcomeDesk desk = filledBy(shares);
            for (int thread = 0; thread < 4; thread++) {
                for (int number = 0; number <= 6; number++) {
                    same("the thirteenth one", false, desk.add(thread, number, number == SKIP ? 1 : 0, 0));
                }
            }
            same("count(0)", 12, desk.count(0));
            same("what it answers later", later(filledBy(shares)), later(desk));
        }
    }

    private static OutcomeDesk filledBy(int[] shares) {
        OutcomeDesk desk = new OutcomeDesk();
        for (int thread = 0; thread < 4; thread++) {
            for (int n = 0; n < shares[thread]; n++) {
                fill(desk, row(thread, LOAD, thread, 0));
            }
        }
        return desk;
    }

    static void promise2RefusedOnesTakeNoPlace() {
        OutcomeDesk desk = new OutcomeDesk();
        for (int n = 0; n < 20; n++) {
            same("no such instruction", false, desk.add(0, 7, 0, 0));
            same("no such thread", false, desk.add(4, STORE, 0, 0));
            same("no such skip", false, desk.add(0, SKIP, 0, 0));
        }
        fill(desk, Programs.TWO_FULL_THREADS);
    }

    static void promise2AddChangesNothingThatWasExplored() {
        OutcomeDesk desk = desk(Programs.STORE_AND_LOAD);
        same("explore", "4", explore(desk, 1));
        String told = allTold(desk);
        fill(desk, row(0, FENCE, 0, 0), row(3, COUNT, 1, 1));
        same("what it tells", told.replaceFirst("^4 ", "6 "), allTold(desk));
    }

    // Promise 3: "how many it had. NONE: no such thread."

    static void promise3HowManyItHad0To6() {
        for (int thread = 0; thread < 4; thread++) {
            for (int had = 0; had <= 6; had++) {
                OutcomeDesk desk = new OutcomeDesk();
                for (int n = 0; n < had; n++) {
                    fill(desk, row(thread, FENCE, 0, 0));
                }
                same("clear", had, desk.clear(thread));
                same("count(0)", 0, desk.count(0));
                same("clear again", 0, desk.clear(thread));
            }
        }
    }

    static void promise3NoThreadBelow0OrAbove3() {
        for (int thread : NOT_0_TO_3) {
            changesNothing(desk -> same("clear(" + thread + ")", NONE, desk.clear(thread)));
        }
    }

    static void promise3ClearOfAnEmptyThreadChangesNothing() {
        for (int empty = 2; empty < 4; empty++) {
            OutcomeDesk desk = desk(Programs.STORE_AND_LOAD);
            same("explore", "4", explore(desk, 2));
            same("clear(" + empty + ")", 0, desk.clear(empty));
            OutcomeDesk twin = desk(Programs.STORE_AND_LOAD);
            same("explore", "4", explore(twin, 2));
            same("what it answers later", later(twin), later(desk));
        }
    }

    static void promise3TheOthersKeepTheirs() {
        for (int cleared = 0; cleared < 4; cleared++) {
            OutcomeDesk desk = new OutcomeDesk();
            OutcomeDesk twin = new OutcomeDesk();
            for (int n = 0; n < 12; n++) {
                int[] row = row(n % 4, COUNT, n % 4, n / 4);
                fill(desk, row);
                if (n % 4 != cleared) {
                    fill(twin, row);
                }
            }
            same("clear(" + cleared + ")", 3, desk.clear(cleared));
            same("count(0)", 9, desk.count(0));
            same("what it answers later", later(twin), later(desk));
        }
    }

    static void promise3AllPlacesAreFreeAgain() {
        OutcomeDesk desk = desk(Programs.TWO_FULL_THREADS);
        same("no thirteenth", false, desk.add(1, FENCE, 0, 0));
        same("clear(0)", 6, desk.clear(0));
        for (int n = 1; n <= 7; n++) {
            same("add " + n + " again", n <= 6, desk.add(0, FENCE, 0, 0));
        }
        same("clear(3)", 6, desk.clear(3));
        for (int n = 1; n <= 7; n++) {
            same("add " + n + " again", n <= 6, desk.add(1, FENCE, 0, 0));
        }
        same("count(0)", 12, desk.count(0));
        same("no thirteenth", false, desk.add(3, FENCE, 0, 0));
    }

    static void promise3WhatWasClearedIsGone() {
        // fewer than before are added then: nothing of the old ones stands behind them
        OutcomeDesk desk = desk(row(0, STORE, 0, 1), row(0, STORE, 1, 1), row(0, STORE, 2, 1));
        same("clear(0)", 3, desk.clear(0));
        fill(desk, row(0, STORE, 3, 2));
        same("explore", "1", explore(desk, 0));
        same("the new one alone", "0000000000000000" + "0002 [0]", told(desk, 0));
    }

    static void promise3ClearChangesNothingThatWasExplored() {
        OutcomeDesk desk = desk(Programs.STORE_AND_LOAD);
        same("explore", "4", explore(desk, 1));
        String told = allTold(desk);
        desk.clear(0);
        desk.clear(1);
        same("what it tells", told.replaceFirst("^4 ", "0 "), allTold(desk));
    }

    // Promise 4: "IllegalArgumentException: there is no such MODEL."

    static void promise4Models0To2() {
        OutcomeDesk desk = desk(row(0, STORE, 3, 1), row(0, STORE, 0, 1), row(1, LOAD, 0, 0), row(1, LOAD, 3, 1));
        // only in model 2 the later store is seen first; models 0 and 1 differ in their states
        same("explore(0)", "3", explore(desk, 0));
        same("states of model 0", 13, desk.count(1));
        same("explore(1)", "3", explore(desk, 1));
        same("explore(2)", "4", explore(desk, 2));
    }

    static void promise4NoModelBelow0OrAbove2() {
        changesNothing(desk -> same("explore(3)", ILLEGAL_ARGUMENT, explore(desk, 3)));
        for (int model : NOT_0_TO_3) {
            changesNothing(desk -> same("explore(" + model + ")", ILLEGAL_ARGUMENT, explore(desk, model)));
        }
    }

    static void promise4NoSuchModelWithTooManyStatesToo() {
        OutcomeDesk desk = desk(Programs.FAR_TOO_MANY);
        same("explore(-1)", ILLEGAL_ARGUMENT, explore(desk, -1));
        same("explore(3)", ILLEGAL_ARGUMENT, explore(desk, 3));
        same("explore(2)", ILLEGAL_STATE, explore(desk, 2));
        same("explore(3)", ILLEGAL_ARGUMENT, explore(desk, 3));
    }

    static void promise4NoSuchModelDoesNotChangeTheModel() {
        OutcomeDesk desk = desk(row(0, STORE, 0, 1));
        same("explore(1)", "1", explore(desk, 1));
        same("explore(0 - 1)", ILLEGAL_ARGUMENT, explore(desk, -1));
        same("the way", "[0, 4]", way(desk, 0));
        same("explore(0)", "1", explore(desk, 0));
        same("the way", "[0]", way(desk, 0));
    }

    static void promise4WithoutInstructions() {
        OutcomeDesk desk = new OutcomeDesk();
        for (int model = 0; model < 3; model++) {
            same("explore(" + model + ")", "1", explore(desk, model));
            counts(desk, 0, 1, 1, 0, 0);
        }
    }

    // Promise 4: "IllegalStateException: there are more than 20000 STATES (nothing changes)."

    static void promise4StatesUpTo20000() {
        for (int model = 0; model < 3; model++) {
            OutcomeDesk desk = desk(Programs.STATES_20000[model]);
            same("explore(" + model + ") is refused", false, explore(desk, model).equals(ILLEGAL_STATE));
            same("states", 20000, desk.count(1));
        }
    }

    static void promise4NotStatesFrom20001On() {
        for (int model = 0; model < 3; model++) {
            OutcomeDesk desk = desk(Programs.STATES_20001[model]);
            same("explore(" + model + ")", ILLEGAL_STATE, explore(desk, model));
        }
    }

    static void promise4NotFarMoreStates() {
        OutcomeDesk desk = desk(Programs.FAR_TOO_MANY);
        same("explore(1)", ILLEGAL_STATE, explore(desk, 1));
        same("explore(2)", ILLEGAL_STATE, explore(desk, 2));
    }

    static void promise4TooManyStatesChangeNothingBeforeTheFirst() {
        for (int model = 0; model < 3; model++) {
            OutcomeDesk desk = desk(Programs.STATES_20001[model]);
            same("explore(" + model + ")", ILLEGAL_STATE, explore(desk, model));
            same("what it tells", allTold(desk(Programs.STATES_20001[model])), allTold(desk));
            counts(desk, 12, 0, 0, 0, 0);
            same("outcome(0, 0)", NO_SUCH_ELEMENT, outcome(desk, 0, 0));
            same("outcome(0, 20)", NO_SUCH_ELEMENT, outcome(desk, 0, 20));
            same("move(0, 0)", NO_SUCH_ELEMENT, move(desk, 0, 0));
            same("may(0, 0)", 0, desk.may(0, 0));
        }
    }

    static void promise4TooManyStatesChangeNothingBehindASmallOne() {
        for (int model = 0; model < 3; model++) {
            OutcomeDesk desk = desk(Programs.STORE_AND_LOAD);
            explore(desk, model);
            refill(desk, Programs.STATES_20001[model]);
            String told = allTold(desk);
            for (int n = 0; n < 3; n++) {
                same("explore(" + model + ")", ILLEGAL_STATE, explore(desk, model));
                same("what it tells", told, allTold(desk));
            }
        }
    }

    static void promise4TooManyStatesChangeNothingBehindTheLargest() {
        for (int model = 0; model < 3; model++) {
            OutcomeDesk desk = desk(Programs.STATES_20000[model]);
            explore(desk, model);
            refill(desk, Programs.STATES_20001[model]);
            String told = allTold(desk);
            for (int n = 0; n < 3; n++) {
                same("explore(" + model + ")", ILLEGAL_STATE, explore(desk, model));
                same("what it tells", told, allTold(desk));
            }
        }
    }

    static void promise4TooManyStatesLeaveTheInstructions() {
        OutcomeDesk desk = desk(Programs.FAR_TOO_MANY);
        same("explore(2)", ILLEGAL_STATE, explore(desk, 2));
        same("count(0)", 12, desk.count(0));
        same("no thirteenth", false, desk.add(0, FENCE, 0, 0));
        OutcomeDesk twin = desk(Programs.FAR_TOO_MANY);
        same("explore(0)", explore(twin, 0), explore(desk, 0));
        same("what it tells", allTold(twin), allTold(desk));
        for (int thread = 0; thread < 4; thread++) {
            same("clear(" + thread + ")", 3, desk.clear(thread));
        }
    }

    static void promise4BehindARefusalTheNextIsWhole() {
        OutcomeDesk desk = desk(Programs.STATES_20001[2]);
        same("explore(2)", ILLEGAL_STATE, explore(desk, 2));
        refill(desk, Programs.STORE_AND_LOAD);
        OutcomeDesk twin = desk(Programs.STORE_AND_LOAD);
        same("what it answers later", later(twin), later(desk));
        refill(desk, Programs.STATES_20001[1]);
        same("explore(1)", ILLEGAL_STATE, explore(desk, 1));
        refill(desk, Programs.STATES_20000[1]);
        refill(twin, Programs.STATES_20000[1]);
        same("explore(1)", explore(twin, 1), explore(desk, 1));
        same("what it tells", allTold(twin), allTold(desk));
    }

    // Promise 4: "what was told of the last one goes"

    static void promise4WhatWasToldGoes() {
        OutcomeDesk desk = desk(row(0, COUNT, 0, 2), row(1, COUNT, 0, 2), row(2, COUNT, 0, 2), row(3, COUNT, 0, 2));
        same("explore", "24", explore(desk, 0));
        same("outcome 23", "3", outcome(desk, 23, 2));
        refill(desk, row(0, LOAD, 0, 0));
        same("explore", "1", explore(desk, 0));
        counts(desk, 1, 2, 1, 0, 1);
        same("outcome 0", "00000000000000000000 [0]", told(desk, 0));
        for (int k = 1; k < 24; k++) {
            same("outcome(" + k + ", 0)", NO_SUCH_ELEMENT, outcome(desk, k, 0));
            same("move(" + k + ", 0)", NO_SUCH_ELEMENT, move(desk, k, 0));
        }
        same("may(2, 3)", 0, desk.may(2, 3));
        same("may(2, 0)", 1, desk.may(2, 0));
    }

    static void promise4ASmallOneBehindTheLargestAndTheLargestAgain() {
        OutcomeDesk desk = new OutcomeDesk();
        for (int n = 0; n < 3; n++) {
            refill(desk, Programs.STATES_20000[2]);
            same("explore", "100", explore(desk, 2));
            same("states", 20000, desk.count(1));
            refill(desk, row(1, STORE, 1, 1));
            same("explore", "1", explore(desk, 2));
            counts(desk, 1, 3, 1, 0, 2);
            same("outcome 0", "0000000000000000" + "0100 [1, 9]", told(desk, 0));
        }
    }

    static void promise4TheSameAgainAnswersTheSame() {
        OutcomeDesk desk = desk(Programs.TWO_FULL_THREADS);
        String first = explore(desk, 1) + allTold(desk);
        for (int n = 0; n < 5; n++) {
            same("again", first, explore(desk, 1) + allTold(desk));
        }
    }

    // Promise 5: "of what was explored last (0 before) ..; NONE for another what"

    static void promise5NoWhatBelow0OrAbove4() {
        for (int what : NOT_0_TO_3) {
            if (what != 4) {
                changesNothing(desk -> same("count(" + what + ")", NONE, desk.count(what)));
            }
        }
    }

    static void promise5What0To4() {
        OutcomeDesk desk = desk(Programs.STORE_AND_LOAD);
        counts(desk, 4, 0, 0, 0, 0);
        same("explore", "4", explore(desk, 1));
        counts(desk, 4, 34, 4, 20, 6);
    }

    static void promise5InstructionsThatThereAreNow() {
        OutcomeDesk desk = new OutcomeDesk();
        for (int n = 0; n < 12; n++) {
            same("count(0)", n, desk.count(0));
            fill(desk, row(n / 3, LOAD, 0, 0));
        }
        same("count(0)", 12, desk.count(0));
        same("explore", "1", explore(desk, 0));
        for (int thread = 0; thread < 4; thread++) {
            desk.clear(thread);
            counts(desk, 9 - 3 * thread, 256, 1, 256 - 1 - 12, 12);
        }
    }

    static void promise5FromOneMoveIsNotMoreThanOne() {
        OutcomeDesk desk = desk(row(0, LOAD, 0, 0), row(0, LOAD, 0, 0));
        same("explore", "1", explore(desk, 2));
        counts(desk, 2, 3, 1, 0, 2);
    }

    static void promise5FromTwoMovesIsMoreThanOne() {
        OutcomeDesk two = desk(row(0, LOAD, 0, 0), row(3, LOAD, 0, 0));
        same("explore", "1", explore(two, 2));
        counts(two, 2, 4, 1, 1, 2);
        // a thread and its buffer
        OutcomeDesk buffer = desk(row(0, STORE, 0, 0), row(0, LOAD, 0, 0));
        same("explore", "1", explore(buffer, 1));
        counts(buffer, 2, 5, 1, 1, 3);
        // two words of one buffer
        OutcomeDesk words = desk(row(0, STORE, 0, 0), row(0, STORE, 1, 0));
        same("explore", "1", explore(words, 2));
        counts(words, 2, 7, 1, 2, 4);
    }

    static void promise5TheMostMovesOf0() {
        OutcomeDesk desk = new OutcomeDesk();
        same("explore", "1", explore(desk, 0));
        same("count(4)", 0, desk.count(4));
    }

    static void promise5TheMostMovesThatThereCanBe() {
        OutcomeDesk desk = twelveStores();
        for (int model = 1; model <= 2; model++) {
            same("explore", "1", explore(desk, model));
            // of each thread by place and how many wait: 18; only one move from 24 of all, none from 1
            counts(desk, 12, 324, 1, 299, 24);
        }
    }

    static void promise5TheMostMovesToAStateThatIsNoOutcome() {
        // thread 1 comes to its last load only if it saw the store: 4 moves; the outcome skips it and needs 3
        OutcomeDesk desk = desk(row(0, STORE, 0, 1), row(1, LOAD, 0, 0), row(1, SKIP, 2, 0), row(1, FENCE, 0, 0), row(1, LOAD, 1, 0));
        same("explore", "1", explore(desk, 0));
        same("the way", "[1, 0, 1]", way(desk, 0));
        same("count(4)", 4, desk.count(4));
    }

    private static OutcomeDesk twelveStores() {
        OutcomeDesk desk = new OutcomeDesk();
        for (int n = 0; n < 12; n++) {
            fill(desk, row(n / 6, STORE, 0, 0));
        }
        return desk;
    }

    // Promise 6: "NoSuchElementException: there is none, or another what."

    static void promise6OutcomesFrom0ToTheLast() {
        OutcomeDesk desk = desk(Programs.STORE_AND_LOAD);
        same("explore", "4", explore(desk, 1));
        String[] due = {"00", "01", "10", "11"};
        for (int k = 0; k < 4; k++) {
            same("outcome " + k, due[k], outcome(desk, k, 0) + outcome(desk, k, 4));
        }
    }

    static void promise6NoOutcomeBelow0OrBehindTheLast() {
        for (int k : NOT_0_TO_3) {
            for (int what : new int[] {0, 15, 16, 19, 20}) {
                changesNothing(desk -> same("outcome(" + k + ", " + what + ")", NO_SUCH_ELEMENT, outcome(desk, k, what)));
            }
        }
    }

    static void promise6OneOutcomeIsOutcome0() {
        OutcomeDesk desk = new OutcomeDesk();
        same("explore", "1", explore(desk, 0));
        same("outcome(0, 0)", "0", outcome(desk, 0, 0));
        same("outcome(1, 0)", NO_SUCH_ELEMENT, outcome(desk, 1, 0));
        same("outcome(-1, 0)", NO_SUCH_ELEMENT, outcome(desk, -1, 0));
    }

    static void promise6What0To20() {
        OutcomeDesk desk = desk(Programs.STORE_AND_LOAD);
        same("explore", "3", explore(desk, 0));
        same("outcome 0", "0000100000000000" + "1100", items(desk, 0));
        same("outcome(0, 20)", "4", outcome(desk, 0, 20));
        for (int what = 0; what < 16; what++) {
            OutcomeDesk one = desk(row(what / 4, STORE, 0, 3), row(what / 4, LOAD, 0, what % 4));
            same("explore", "1", explore(one, 0));
            for (int other = 0; other < 20; other++) {
                same("outcome(0, " + other + ")", other == what || other == 16 ? 3 : 0, outcome(one, 0, other));
            }
        }
        for (int word = 0; word < 4; word++) {
            OutcomeDesk one = desk(row(word, STORE, word, 2));
            same("explore", "1", explore(one, 0));
            for (int other = 0; other < 20; other++) {
                same("outcome(0, " + other + ")", other == 16 + word ? 2 : 0, outcome(one, 0, other));
            }
        }
    }

    static void promise6NoWhatBelow0OrAbove20() {
        int[] others = {Integer.MIN_VALUE, -64, -32, -20, -12, -2, -1, 21, 22, 24, 32, 52, 64, 1 << 30, Integer.MAX_VALUE};
        for (int what : others) {
            for (int k = 0; k < 3; k++) {
                int which = k;
                changesNothing(desk -> same("outcome(" + which + ", " + what + ")", NO_SUCH_ELEMENT, outcome(desk, which, what)));
            }
        }
    }

    static void promise6AWayOf0Moves() {
        OutcomeDesk desk = new OutcomeDesk();
        for (int model = 0; model < 3; model++) {
            same("explore", "1", explore(desk, model));
            same("outcome(0, 20)", "0", outcome(desk, 0, 20));
        }
    }

    static void promise6AWayOf24Moves() {
        OutcomeDesk desk = twelveStores();
        for (int model = 1; model <= 2; model++) {
            same("explore", "1", explore(desk, model));
            same("outcome(0, 20)", "24", outcome(desk, 0, 20));
        }
        same("explore", "1", explore(desk, 0));
        same("outcome(0, 20)", "12", outcome(desk, 0, 20));
    }

    static void promise6OrderWhereOneItemDiffers() {
        for (int what = 0; what < 16; what++) {
            OutcomeDesk desk = desk(row(what / 4, LOAD, 1, what % 4), row((what / 4 + 1) % 4, STORE, 1, 3));
            same("explore", "2", explore(desk, 0));
            same("the lesser one", "0", outcome(desk, 0, what));
            same("the greater one", "3", outcome(desk, 1, what));
        }
        for (int word = 0; word < 4; word++) {
            OutcomeDesk desk = desk(row(0, STORE, word, 2), row(1, STORE, word, 1));
            same("explore", "2", explore(desk, 0));
            same("the lesser one", "1", outcome(desk, 0, 16 + word));
            same("the greater one", "2", outcome(desk, 1, 16 + word));
        }
    }

    static void promise6OrderOfRegistersOfTwoThreads() {
        for (int i = 0; i < 16; i++) {
            for (int j = i / 4 * 4 + 4; j < 16; j++) {
                OutcomeDesk desk = desk(row(j / 4, COUNT, 0, j % 4), row(i / 4, COUNT, 0, i % 4));
                same("explore", "2", explore(desk, 1));
                same("the first register is less", "01", outcome(desk, 0, i) + outcome(desk, 0, j));
                same("the first register is more", "10", outcome(desk, 1, i) + outcome(desk, 1, j));
            }
        }
    }

    static void promise6OrderOfRegistersOfOneThread() {
        String[] due = {"00", "01", "10", "11"};
        for (int thread = 0; thread < 4; thread++) {
            for (int r = 0; r < 4; r++) {
                for (int s = r + 1; s < 4; s++) {
                    int other = (thread + 1) % 4;
                    OutcomeDesk desk = desk(row(thread, LOAD, 0, r), row(thread, LOAD, 1, s),
                        row(other, STORE, 1, 1), row(other, STORE, 0, 1), row(other, STORE, 1, 0));
                    same("explore", "4", explore(desk, 0));
                    for (int k = 0; k < 4; k++) {
                        same("outcome " + k, due[k], outcome(desk, k, 4 * thread + r) + outcome(desk, k, 4 * thread + s));
                    }
                }
            }
        }
    }

    static void promise6OrderOfRegistersBeforeWords() {
        for (int what = 0; what < 16; what++) {
            for (int word = 0; word < 4; word++) {
                OutcomeDesk desk = desk(row(what / 4, COUNT, word, what % 4), row((what / 4 + 1) % 4, STORE, word, 3));
                same("explore", "2", explore(desk, 0));
                same("the register is less", "03", outcome(desk, 0, what) + outcome(desk, 0, 16 + word));
                same("the register is more", "30", outcome(desk, 1, what) + outcome(desk, 1, 16 + word));
            }
        }
    }

    static void promise6OrderOfWords() {
        String[] due = {"11", "12", "21", "22"};
        for (int i = 0; i < 4; i++) {
            for (int j = i + 1; j < 4; j++) {
                OutcomeDesk desk = desk(row(0, STORE, i, 1), row(0, STORE, j, 2), row(1, STORE, i, 2), row(1, STORE, j, 1));
                same("explore", "4", explore(desk, 0));
                for (int k = 0; k < 4; k++) {
                    same("outcome " + k, due[k], outcome(desk, k, 16 + i) + outcome(desk, k, 16 + j));
                }
            }
        }
    }

    static void promise6OrderOfManyOutcomes() {
        for (int[][] rows : Programs.STATES_20000) {
            OutcomeDesk desk = desk(rows);
            if (!explore(desk, 0).equals(ILLEGAL_STATE)) {
                for (int k = 1; k < desk.count(2); k++) {
                    same("outcome " + k + " is greater", true, items(desk, k - 1).compareTo(items(desk, k)) < 0);
                }
            }
        }
    }

    // Promise 7: "MOVE i (from 0 on) of the WAY to OUTCOME k. NoSuchElementException: there is none such."

    static void promise7MovesFrom0ToTheLast() {
        OutcomeDesk desk = desk(Programs.STORE_AND_LOAD);
        same("explore", "4", explore(desk, 1));
        int[] due = {0, 0, 1, 1, 4, 9};
        for (int i = 0; i < due.length; i++) {
            same("move(0, " + i + ")", due[i], move(desk, 0, i));
        }
    }

    static void promise7NoMoveBelow0() {
        for (int i : new int[] {-1, -2, -6, -20, -24, Integer.MIN_VALUE, Integer.MIN_VALUE + 1}) {
            for (int k = -1; k <= 4; k++) {
                int which = k;
                changesNothing(desk -> same("move(" + which + ", " + i + ")", NO_SUCH_ELEMENT, move(desk, which, i)));
            }
        }
    }

    static void promise7NoMoveBehindTheLast() {
        // the ways of all stages have at most 6 moves
        for (int i : new int[] {6, 7, 20, 23, 24, 25, 20000, 1 << 30, Integer.MAX_VALUE}) {
            for (int k = -1; k <= 4; k++) {
                int which = k;
                changesNothing(desk -> same("move(" + which + ", " + i + ")", NO_SUCH_ELEMENT, move(desk, which, i)));
            }
        }
    }

    static void promise7NoOutcomeBelow0OrBehindTheLast() {
        for (int k : NOT_0_TO_3) {
            changesNothing(desk -> same("move(" + k + ", 0)", NO_SUCH_ELEMENT, move(desk, k, 0)));
        }
    }

    static void promise7AWayWithoutMoves() {
        OutcomeDesk desk = new OutcomeDesk();
        same("explore", "1", explore(desk, 1));
        for (int i = -1; i <= 1; i++) {
            same("move(0, " + i + ")", NO_SUCH_ELEMENT, move(desk, 0, i));
        }
    }

    static void promise7AWayOf24Moves() {
        OutcomeDesk desk = twelveStores();
        for (int model = 1; model <= 2; model++) {
            same("explore", "1", explore(desk, model));
            same("the way", "[0, 0, 1, 1, 4, 0, 4, 0, 4, 0, 4, 0, 4, 4, 8, 1, 8, 1, 8, 1, 8, 1, 8, 8]", way(desk, 0));
            same("move(0, 23)", "8", move(desk, 0, 23));
            same("move(0, 24)", NO_SUCH_ELEMENT, move(desk, 0, 24));
        }
    }

    static void promise7EachWayHasItsOwnEnd() {
        OutcomeDesk desk = desk(row(0, STORE, 0, 1), row(1, LOAD, 0, 0), row(1, SKIP, 1, 0), row(1, STORE, 1, 1));
        same("explore", "2", explore(desk, 0));
        same("the short way", "[1, 0, 1]", way(desk, 0));
        same("move(0, 3)", NO_SUCH_ELEMENT, move(desk, 0, 3));
        same("the long way", "[0, 1, 1, 1]", way(desk, 1));
        same("move(1, 3)", "1", move(desk, 1, 3));
        same("move(1, 4)", NO_SUCH_ELEMENT, move(desk, 1, 4));
    }

    static void promise7TheLastOutcome() {
        OutcomeDesk desk = desk(row(0, COUNT, 0, 2), row(1, COUNT, 0, 2), row(2, COUNT, 0, 2), row(3, COUNT, 0, 2));
        same("explore", "24", explore(desk, 2));
        same("the last way", "[3, 2, 1, 0]", way(desk, 23));
        same("move(24, 0)", NO_SUCH_ELEMENT, move(desk, 24, 0));
    }

    // Promise 8: "How many OUTCOMES have v as what (0 .. 19, as in outcome()); NONE for another what."

    static void promise8What0To19() {
        OutcomeDesk desk = desk(Programs.STORE_AND_LOAD);
        same("explore", "4", explore(desk, 1));
        for (int what = 0; what < 20; what++) {
            int all = 0;
            for (int v = 0; v < 4; v++) {
                all += desk.may(what, v);
            }
            same("outcomes that have any number as " + what, 4, all);
        }
        same("may(0, 1)", 2, desk.may(0, 1));
        same("may(19, 0)", 4, desk.may(19, 0));
    }

    static void promise8NoWhatBelow0OrAbove19() {
        int[] others = {Integer.MIN_VALUE, -32, -12, -2, -1, 20, 21, 24, 32, 51, 52, 1 << 30, Integer.MAX_VALUE};
        for (int what : others) {
            for (int v : new int[] {-1, 0, 1, 4, 6}) {
                changesNothing(desk -> same("may(" + what + ", " + v + ")", NONE, desk.may(what, v)));
            }
        }
    }

    static void promise8V0To3() {
        OutcomeDesk desk = desk(row(0, COUNT, 3, 3), row(1, COUNT, 3, 3), row(2, COUNT, 3, 3), row(3, COUNT, 3, 3));
        same("explore", "24", explore(desk, 0));
        for (int thread = 0; thread < 4; thread++) {
            for (int v = 0; v < 4; v++) {
                same("may(" + (4 * thread + 3) + ", " + v + ")", 6, desk.may(4 * thread + 3, v));
            }
        }
    }

    static void promise8NoneHasAVBelow0OrAbove3() {
        for (int v : NOT_0_TO_3) {
            for (int what : new int[] {0, 4, 15, 16, 19}) {
                changesNothing(desk -> same("may(" + what + ", " + v + ")", 0, desk.may(what, v)));
            }
        }
    }

    static void promise8AllOutcomesAndNone() {
        OutcomeDesk desk = desk(row(0, STORE, 2, 3));
        for (int model = 0; model < 3; model++) {
            same("explore", "1", explore(desk, model));
            same("may(18, 3)", 1, desk.may(18, 3));
            same("may(18, 0)", 0, desk.may(18, 0));
            same("may(18, 2)", 0, desk.may(18, 2));
        }
    }
}
