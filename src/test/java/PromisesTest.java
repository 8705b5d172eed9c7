/** Each promise by hand: ordinary inputs, the edges that the document names, wrong inputs. */
public final class PromisesTest extends Checks {
    private static final int[] ODD = {Integer.MIN_VALUE, -4, -2, -1, 4, 7, 100, Integer.MAX_VALUE};

    public static void main(String[] args) {
        endInTime();
        aNewObject();
        addTakesWhatThereIs();
        addRefusesWhatThereIsNot();
        addKeepsTheLimits();
        clearEmptiesOneThread();
        storesAtOnce();
        storesThatWait();
        ownStoresAreSeen();
        fencesWaitForTheBuffer();
        swapsAndCounts();
        skips();
        exploreRefuses();
        exploreAtTheLimit();
        toldStaysUntilTheNext();
        orderOfOutcomes();
        leastOfShortestWays();
        buffersKeepTheirOrder();
        wrongQuestions();
        finish(1);
    }

    private static void aNewObject() {
        OutcomeDesk desk = new OutcomeDesk();
        same("NONE", -1, OutcomeDesk.NONE);
        for (int what = 0; what <= 4; what++) {
            same("count of a new object", 0, desk.count(what));
        }
        same("may of a new object", 0, desk.may(0, 0));
        same("outcome of a new object", NO_SUCH_ELEMENT, outcome(desk, 0, 0));
        same("way length of a new object", NO_SUCH_ELEMENT, outcome(desk, 0, 20));
        same("move of a new object", NO_SUCH_ELEMENT, move(desk, 0, 0));
        for (int model = 0; model < 3; model++) {
            same("explore nothing", "1", explore(desk, model));
            counts(desk, 0, 1, 1, 0, 0);
            same("way to the beginning", "[]", way(desk, 0));
            same("all of it is 0", 1, desk.may(19, 0));
        }
    }

    private static void addTakesWhatThereIs() {
        for (int number = 0; number <= 6; number++) {
            for (int a = -1; a <= 4; a++) {
                for (int b = -1; b <= 4; b++) {
                    boolean inRange = a >= 0 && a <= 3 && b >= 0 && b <= 3;
                    boolean due = inRange && (number != 3 || a == 0 && b == 0) && (number != 6 || a > 0);
                    OutcomeDesk desk = new OutcomeDesk();
                    same("add " + number + " " + a + " " + b, due, desk.add(3, number, a, b));
                    same("count behind add", due ? 1 : 0, desk.count(0));
                }
            }
        }
    }

    private static void addRefusesWhatThereIsNot() {
        OutcomeDesk desk = new OutcomeDesk();
        for (int odd : ODD) {
            same("add to thread " + odd, false, desk.add(odd, 3, 0, 0));
            same("add to word " + odd, false, desk.add(0, 0, odd, 0));
            same("add value " + odd, false, desk.add(0, 0, 0, odd));
            same("add fence a " + odd, false, desk.add(0, 3, odd, 0));
            same("add fence b " + odd, false, desk.add(0, 3, 0, odd));
            same("add skip of " + odd, false, desk.add(0, 6, odd, 0));
            if (odd != 4) {
                same("add number " + odd, false, desk.add(0, odd, 0, 0));
            }
        }
        same("nothing was added", 0, desk.count(0));
        same("nothing to explore", "1", explore(desk, 2));
        same("one state", 1, desk.count(1));
    }

    private static void addKeepsTheLimits() {
        OutcomeDesk desk = new OutcomeDesk();
        for (int i = 0; i < 6; i++) {
            same("add " + i, true, desk.add(1, 5, 0, 0));
        }
        same("a seventh one", false, desk.add(1, 5, 0, 0));
        same("six there are", 6, desk.count(0));
        for (int i = 0; i < 6; i++) {
            same("add " + i, true, desk.add(i % 2 * 3, 5, 0, 0));
        }
        same("a thirteenth one", false, desk.add(2, 5, 0, 0));
        same("twelve there are", 12, desk.count(0));
        same("clear makes room", 3, desk.clear(0));
        same("room again", true, desk.add(2, 5, 0, 0));
        same("ten there are", 10, desk.count(0));
    }

    private static void clearEmptiesOneThread() {
        OutcomeDesk desk = desk(new int[][] {{0, 0, 0, 1}, {0, 0, 1, 1}, {2, 0, 2, 3}});
        for (int odd : ODD) {
            same("clear " + odd, OutcomeDesk.NONE, desk.clear(odd));
        }
        same("nothing went", 3, desk.count(0));
        same("clear(0)", 2, desk.clear(0));
        same("clear(0) again", 0, desk.clear(0));
        same("clear(1)", 0, desk.clear(1));
        same("one is left", 1, desk.count(0));
        same("explore the rest", "1", explore(desk, 0));
        same("the rest", "0000000000000000" + "0030 [2]", told(desk, 0));
        same("add behind clear", true, desk.add(0, 0, 3, 1));
        same("explore", "1", explore(desk, 0));
        same("the new one is the first", "0000000000000000" + "0031 [0, 2]", told(desk, 0));
    }

    private static void storesAtOnce() {
        OutcomeDesk desk = desk(new int[][] {{0, 0, 0, 3}, {0, 2, 0, 1}, {0, 1, 2, 1}});
        same("explore", "1", explore(desk, 0));
        same("store, load, store of a register", "0300000000000000" + "3030 [0, 0, 0]", told(desk, 0));
        counts(desk, 3, 4, 1, 0, 3);
    }

    private static void storesThatWait() {
        int[][] stores = {{0, 0, 0, 1}, {0, 0, 1, 1}, {0, 0, 2, 1}};
        OutcomeDesk desk = desk(stores);
        same("explore", "1", explore(desk, 1));
        // the third store has to wait for the first one to leave
        same("first in, first out", "0000000000000000" + "1110 [0, 0, 4, 0, 5, 6]", told(desk, 0));
        same("explore", "1", explore(desk, 2));
        same("the same least way", "0000000000000000" + "1110 [0, 0, 4, 0, 5, 6]", told(desk, 0));

        // what the second thread sees tells whether the stores of the first one can change places
        OutcomeDesk seen = desk(new int[][] {{1, 0, 0, 1}, {1, 0, 1, 1}, {0, 2, 1, 0}, {0, 2, 0, 1}});
        same("model 0 outcomes", "3", explore(seen, 0));
        same("model 1 outcomes", "3", explore(seen, 1));
        same("model 2 outcomes", "4", explore(seen, 2));
        same("the later one is seen first", "1000000000000000" + "1100 [1, 1, 9, 0, 0, 8]", told(seen, 2));

        // two stores to one word never change places
        OutcomeDesk one = desk(new int[][] {{3, 0, 2, 1}, {3, 0, 2, 2}});
        same("one word", "1", explore(one, 2));
        same("the later one stays", "0000000000000000" + "0020 [3, 3, 18, 18]", told(one, 0));
        counts(one, 2, 6, 1, 1, 4);
    }

    private static void ownStoresAreSeen() {
        OutcomeDesk desk = desk(new int[][] {{0, 0, 1, 1}, {0, 0, 1, 2}, {0, 2, 1, 3}, {0, 2, 0, 3}, {0, 2, 1, 2}});
        for (int model = 0; model < 3; model++) {
            same("explore", "1", explore(desk, model));
            same("the latest own store", 1, desk.may(2, 2));
            same("another word", 1, desk.may(3, 0));
        }
        OutcomeDesk other = desk(new int[][] {{0, 0, 1, 1}, {1, 2, 1, 0}});
        same("explore", "2", explore(other, 1));
        same("not the stores of others", "0000000000000000" + "0100 [0, 1, 5]", told(other, 0));
        same("until they are there", "0000100000000000" + "0100 [0, 5, 1]", told(other, 1));
    }

    private static void fencesWaitForTheBuffer() {
        for (int number = 3; number <= 5; number++) {
            OutcomeDesk desk = desk(new int[][] {{0, 0, 1, 2}, {0, number, 0, 0}});
            same("explore", "1", explore(desk, 1));
            same("a buffer first: " + number, "[0, 5, 0]", way(desk, 0));
            counts(desk, 2, 4, 1, 0, 3);
            same("explore", "1", explore(desk, 0));
            same("no buffer: " + number, "[0, 0]", way(desk, 0));
        }
        // the buffer of another thread is nothing to wait for
        OutcomeDesk two = desk(new int[][] {{0, 0, 1, 2}, {1, 3, 0, 0}});
        same("explore", "1", explore(two, 2));
        same("another's buffer", "[0, 1, 5]", way(two, 0));
        // dekker with fences: not both can read 0
        OutcomeDesk dekker = desk(new int[][] {{0, 0, 0, 1}, {0, 3, 0, 0}, {0, 2, 1, 0}, {1, 0, 1, 1}, {1, 3, 0, 0}, {1, 2, 0, 0}});
        for (int model = 0; model < 3; model++) {
            same("dekker with fences", "3", explore(dekker, model));
            same("0 and 1", "0000100000000000", told(dekker, 0).substring(0, 16));
        }
    }

    private static void swapsAndCounts() {
        OutcomeDesk desk = desk(new int[][] {
            {0, 5, 3, 0}, {0, 5, 3, 1}, {0, 5, 3, 2}, {0, 5, 3, 3}, {0, 4, 3, 3}, {0, 5, 0, 0}});
        same("explore", "1", explore(desk, 0));
        // 0, 1, 2, 3, then the word is 0 again and changes places with the 3
        same("count and swap", "0120000000000000" + "1003 [0, 0, 0, 0, 0, 0]", told(desk, 0));
        OutcomeDesk race = desk(new int[][] {{0, 5, 0, 2}, {1, 5, 0, 2}, {2, 5, 0, 2}, {3, 5, 0, 2}});
        for (int model = 0; model < 3; model++) {
            same("all orders", "24", explore(race, model));
            same("each first as often", 6, race.may(14, 0));
            same("the word is 0 again", 24, race.may(16, 0));
            same("the first of all", "0000001000200030" + "0000 [0, 1, 2, 3]", told(race, 0));
            same("the last of all", "0030002000100000" + "0000 [3, 2, 1, 0]", told(race, 23));
        }
    }

    private static void skips() {
        for (int a = 1; a <= 3; a++) {
            OutcomeDesk desk = desk(new int[][] {{0, 6, a, 1}, {0, 0, 0, 1}, {0, 0, 1, 1}, {0, 0, 2, 1}, {0, 0, 3, 1}});
            same("explore", "1", explore(desk, 0));
            same("skip " + a, "0000000000000000" + "1111".replaceAll("^.{" + a + "}", "000".substring(0, a)),
                told(desk, 0).substring(0, 20));
            same("as many moves less", 5 - a, outcome(desk, 0, 20));
        }
        OutcomeDesk notZero = desk(new int[][] {{0, 0, 0, 2}, {0, 2, 0, 1}, {0, 6, 3, 1}, {0, 0, 1, 3}});
        same("explore", "1", explore(notZero, 1));
        same("a register that is not 0", 1, notZero.may(17, 3));
        OutcomeDesk end = desk(new int[][] {{0, 2, 0, 0}, {0, 6, 3, 0}, {0, 2, 1, 3}, {1, 6, 3, 0}});
        same("explore", "1", explore(end, 2));
        // past the end there is one place only: 3 places of thread 0 that can come, 2 of thread 1
        counts(end, 4, 6, 1, 2, 3);
        // whether skipped or not, thread 0 ends at the same place with the same register
        OutcomeDesk meet = desk(new int[][] {{0, 2, 0, 0}, {0, 6, 3, 0}, {0, 2, 1, 0}, {1, 0, 0, 1}});
        same("explore", "1", explore(meet, 0));
        counts(meet, 4, 8, 1, 2, 3);
        OutcomeDesk waiting = desk(new int[][] {{0, 0, 0, 1}, {0, 0, 0, 2}, {0, 6, 1, 0}, {0, 3, 0, 0}, {0, 2, 0, 0}});
        same("explore", "1", explore(waiting, 1));
        same("a skip does not wait", "[0, 0, 0, 0, 4, 4]", way(waiting, 0));
    }

    private static void exploreRefuses() {
        OutcomeDesk desk = desk(new int[][] {{0, 0, 0, 1}});
        for (int odd : ODD) {
            same("explore " + odd, ILLEGAL_ARGUMENT, explore(desk, odd));
        }
        same("explore 3", ILLEGAL_ARGUMENT, explore(desk, 3));
        same("nothing was explored", 0, desk.count(1));
        same("explore", "1", explore(desk, 1));
        same("explore 3", ILLEGAL_ARGUMENT, explore(desk, 3));
        counts(desk, 1, 3, 1, 0, 2);
        same("the way stays", "[0, 4]", way(desk, 0));
    }

    private static void exploreAtTheLimit() {
        int[][] most = Programs.STATES_20000[2];
        int[][] tooMany = Programs.STATES_20001[2];
        OutcomeDesk desk = desk(tooMany);
        same("20001 states", ILLEGAL_STATE, explore(desk, 2));
        counts(desk, 12, 0, 0, 0, 0);
        same("no outcome", NO_SUCH_ELEMENT, outcome(desk, 0, 0));
        refill(desk, most);
        same("20000 states", "100", explore(desk, 2));
        same("20000 states", 20000, desk.count(1));
        String told = allTold(desk);
        // nothing changes when it is too many, however often it is asked
        refill(desk, tooMany);
        for (int i = 0; i < 3; i++) {
            same("20001 states", ILLEGAL_STATE, explore(desk, 2));
            same("nothing changed", told, allTold(desk));
        }
        refill(desk, new int[][] {{0, 0, 0, 3}});
        same("a small one behind it", "1", explore(desk, 1));
        counts(desk, 1, 3, 1, 0, 2);
        same("it is whole", "0000000000000000" + "3000 [0, 4]", told(desk, 0));
    }

    private static void toldStaysUntilTheNext() {
        OutcomeDesk desk = desk(new int[][] {{0, 5, 0, 0}, {1, 5, 0, 0}});
        same("explore", "2", explore(desk, 0));
        desk.add(2, 0, 1, 1);
        desk.clear(0);
        counts(desk, 2, 5, 2, 1, 2);
        same("the first of the old", "0000100000000000" + "2000 [0, 1]", told(desk, 0));
        same("the second of the old", "1000000000000000" + "2000 [1, 0]", told(desk, 1));
        same("may of the old", 1, desk.may(4, 1));
        same("explore", "1", explore(desk, 0));
        same("the new one", "0000000000000000" + "1100 [1, 2]", told(desk, 0));
        same("the old went", NO_SUCH_ELEMENT, outcome(desk, 1, 0));
        same("its way too", NO_SUCH_ELEMENT, move(desk, 1, 0));
    }

    private static void orderOfOutcomes() {
        // registers count before words, threads before threads, and the first that differs before all
        OutcomeDesk desk = desk(new int[][] {{0, 0, 0, 1}, {1, 0, 0, 2}, {2, 0, 0, 3}, {3, 2, 0, 1}});
        // 0 with each of three words at the end, each other value with each word: it and the two others
        same("explore", "12", explore(desk, 0));
        same("the first one", "0000000000000000" + "1000 [3, 1, 2, 0]", told(desk, 0));
        for (int k = 0; k + 1 < desk.count(2); k++) {
            same("order of " + k, true, told(desk, k).substring(0, 20).compareTo(told(desk, k + 1).substring(0, 20)) < 0);
        }
        OutcomeDesk two = desk(new int[][] {{0, 2, 0, 1}, {0, 2, 1, 0}, {1, 0, 0, 3}, {1, 0, 1, 1}});
        same("explore", "4", explore(two, 0));
        same("order 0", "0000", told(two, 0).substring(0, 4));
        same("order 1", "0300", told(two, 1).substring(0, 4));
        same("order 2", "1000", told(two, 2).substring(0, 4));
        same("order 3", "1300", told(two, 3).substring(0, 4));
    }

    private static void leastOfShortestWays() {
        OutcomeDesk desk = desk(new int[][] {{2, 0, 0, 1}, {1, 0, 1, 1}, {0, 0, 2, 1}});
        same("explore", "1", explore(desk, 0));
        same("least threads first", "[0, 1, 2]", way(desk, 0));
        same("explore", "1", explore(desk, 2));
        same("threads before buffers", "[0, 1, 2, 6, 9, 12]", way(desk, 0));
        // to go by [0, 1, ..] would be less, but then nothing is skipped and the way is longer
        OutcomeDesk skip = desk(new int[][] {{0, 0, 0, 1}, {1, 2, 0, 0}, {1, 6, 2, 0}, {1, 3, 0, 0}, {1, 2, 1, 0}});
        same("explore", "1", explore(skip, 0));
        same("shortest before least", "0000000000000000" + "1000 [1, 0, 1]", told(skip, 0));
        // only with the store first can thread 1 stand at its fence or behind it
        same("steps to the farthest state", 4, skip.count(4));
    }

    private static void buffersKeepTheirOrder() {
        // thread 0 ends with stores to words 0 and 1 that wait in the one or the other
        // order, all else being the same: these are two states, in model 2 too
        OutcomeDesk desk = desk(new int[][] {
            {0, 2, 3, 0}, {0, 0, 0, 0}, {0, 0, 1, 0}, {0, 6, 1, 0}, {0, 0, 0, 0}, {0, 2, 2, 0}, {1, 0, 3, 1}});
        same("explore", "1", explore(desk, 2));
        counts(desk, 7, 66, 1, 50, 10);
        same("explore", "1", explore(desk, 1));
        counts(desk, 7, 53, 1, 35, 10);
    }

    private static void wrongQuestions() {
        OutcomeDesk desk = desk(new int[][] {{0, 0, 0, 1}, {1, 2, 0, 0}});
        explore(desk, 1);
        same("two outcomes", 2, desk.count(2));
        for (int odd : ODD) {
            same("outcome " + odd, NO_SUCH_ELEMENT, outcome(desk, odd, 0));
            same("move of " + odd, NO_SUCH_ELEMENT, move(desk, odd, 0));
            same("move " + odd, NO_SUCH_ELEMENT, move(desk, 0, odd));
            same("may with " + odd, 0, desk.may(0, odd));
            if (odd < 0 || odd > 20) {
                same("may of " + odd, OutcomeDesk.NONE, desk.may(odd, 0));
                same("outcome's " + odd, NO_SUCH_ELEMENT, outcome(desk, 0, odd));
            }
            if (odd != 4) {
                same("count " + odd, OutcomeDesk.NONE, desk.count(odd));
            }
        }
        same("count 5", OutcomeDesk.NONE, desk.count(5));
        same("may of 20", OutcomeDesk.NONE, desk.may(20, 0));
        same("may of 19", 2, desk.may(19, 0));
        same("may of 4", 1, desk.may(4, 1));
        same("outcome's 21", NO_SUCH_ELEMENT, outcome(desk, 0, 21));
        same("outcome 2", NO_SUCH_ELEMENT, outcome(desk, 2, 0));
        same("last move", "4", move(desk, 0, 2));
        same("a move behind the last", NO_SUCH_ELEMENT, move(desk, 0, 3));
        same("a move before the first", NO_SUCH_ELEMENT, move(desk, 0, -1));
    }
}
