/**
 * The sections "What it is" and "Terms": each sentence that names a boundary
 * case has a test of its own here. A test's name begins with the promise
 * through which the sentence is seen. Which instructions there are at all is
 * promise 2, in EdgesOfPromisesTest; here it is what they and the moves do.
 */
public final class EdgesOfTermsTest extends Checks {
    private static final int STORE = 0;
    private static final int STORE_REGISTER = 1;
    private static final int LOAD = 2;
    private static final int FENCE = 3;
    private static final int SWAP = 4;
    private static final int COUNT = 5;
    private static final int SKIP = 6;

    public static void main(String[] args) {
        runAll(EdgesOfTermsTest.class);
    }

    // "An object is used for at most 512 calls after it has been made"

    static void promise4The512thCallExploresAsTheFirst() {
        OutcomeDesk desk = desk(Programs.STORE_AND_LOAD);
        String[] due = {"3", "4", "4"};
        for (int call = 5; call <= 512; call++) {
            same("call " + call, due[call % 3], explore(desk, call % 3));
        }
    }

    static void promise3The512thCallClearsAsTheFirst() {
        OutcomeDesk desk = new OutcomeDesk();
        for (int call = 1; call <= 512; call += 2) {
            same("call " + call, true, desk.add(call / 2 % 4, COUNT, 0, 0));
            same("call " + (call + 1), 1, desk.clear(call / 2 % 4));
        }
    }

    static void promise2The512thCallAddsAsTheFirst() {
        OutcomeDesk desk = new OutcomeDesk();
        for (int call = 1; call <= 511; call++) {
            same("call " + call, false, desk.add(0, STORE, 4, 0));
        }
        same("call 512", true, desk.add(0, STORE, 3, 0));
    }

    static void promise5The512thCallCountsAsTheFirst() {
        same("call 512", 34, askedUpTo511().count(1));
    }

    static void promise6The512thCallTellsAsTheFirst() {
        same("call 512", "1", outcome(askedUpTo511(), 3, 4));
        same("call 512", NO_SUCH_ELEMENT, outcome(askedUpTo511(), 4, 4));
    }

    static void promise7The512thCallTellsAsTheFirst() {
        same("call 512", "9", move(askedUpTo511(), 0, 5));
        same("call 512", NO_SUCH_ELEMENT, move(askedUpTo511(), 0, 6));
    }

    static void promise8The512thCallCountsAsTheFirst() {
        same("call 512", 2, askedUpTo511().may(4, 1));
    }

    private static OutcomeDesk askedUpTo511() {
        OutcomeDesk desk = desk(Programs.STORE_AND_LOAD);
        same("call 5", "4", explore(desk, 1));
        for (int call = 6; call <= 511; call += 2) {
            same("call " + call, "9", move(desk, 0, 5));
            same("call " + (call + 1), NO_SUCH_ELEMENT, outcome(desk, 4, 0));
        }
        return desk;
    }

    static void promise4The512thCallIsTheLargest() {
        OutcomeDesk desk = desk(Programs.STATES_20000[2]);
        for (int call = 13; call <= 511; call++) {
            same("call " + call, NONE, desk.clear(4));
        }
        same("call 512", "100", explore(desk, 2));
    }

    // "All of these are numbers 0 .. 3, at the beginning 0."

    static void promise6TermsAllIs0AtTheBeginning() {
        for (int model = 0; model < 3; model++) {
            OutcomeDesk desk = new OutcomeDesk();
            same("explore", "1", explore(desk, model));
            same("all of it", "00000000000000000000", items(desk, 0));
        }
    }

    static void promise4TermsAWordIs0AtTheBeginning() {
        for (int word = 0; word < 4; word++) {
            for (int model = 0; model < 3; model++) {
                // with the other words not 0 and the register not 0 before
                OutcomeDesk desk = desk(row(1, STORE, (word + 1) % 4, 3), row(1, FENCE, 0, 0),
                    row(1, LOAD, (word + 1) % 4, 2), row(1, LOAD, word, 2));
                same("explore", "1", explore(desk, model));
                same("register 2 of thread 1 from word " + word, "0", outcome(desk, 0, 6));
            }
        }
    }

    static void promise4TermsARegisterIs0AtTheBeginning() {
        for (int register = 0; register < 4; register++) {
            for (int thread = 0; thread < 4; thread++) {
                OutcomeDesk desk = desk(row(thread, STORE, 2, 3), row(thread, LOAD, 2, (register + 1) % 4),
                    row(thread, STORE_REGISTER, 2, register));
                for (int model = 0; model < 3; model++) {
                    same("explore", "1", explore(desk, model));
                    same("word 2 from register " + register, "0", outcome(desk, 0, 18));
                }
            }
        }
    }

    static void promise4TermsEachExplorationBeginsWith0() {
        OutcomeDesk desk = desk(row(0, COUNT, 0, 0), row(0, COUNT, 0, 0));
        for (int n = 0; n < 9; n++) {
            same("explore", "1", explore(desk, n % 3));
            same("counted from 0 on", "1000000000000000" + "2000 [0, 0]", told(desk, 0));
        }
    }

    // "STORE b (0 .. 3) to WORD a", "STORE REGISTER b to WORD a", "REGISTER b gets WORD a"

    static void promise4TermsStoreTheLeastAndTheMostToEachWord() {
        for (int word = 0; word < 4; word++) {
            for (int value = 0; value < 4; value++) {
                // the other words are 3 and stay so; 3 - value is there before
                OutcomeDesk desk = desk(row(0, STORE, word, 3 - value), row(0, STORE, word, value),
                    row(1, STORE, (word + 1) % 4, 3), row(2, STORE, (word + 2) % 4, 3), row(3, STORE, (word + 3) % 4, 3));
                String due = "0000000000000000" + "3333".substring(0, word) + value + "3333".substring(word + 1);
                for (int model = 0; model < 3; model++) {
                    same("explore", "1", explore(desk, model));
                    same("store " + value + " to word " + word, due, items(desk, 0));
                }
            }
        }
    }

    static void promise4TermsLoadAndStoreEachRegisterOfEachThread() {
        for (int what = 0; what < 16; what++) {
            int thread = what / 4;
            for (int value = 0; value < 4; value++) {
                OutcomeDesk desk = desk(row(thread, STORE, 3, value), row(thread, LOAD, 3, what % 4),
                    row(thread, STORE, 3, 3 - value), row(thread, STORE_REGISTER, 0, what % 4));
                String registers = "000000000000000".substring(0, what) + value + "000000000000000".substring(what);
                for (int model = 0; model < 3; model++) {
                    same("explore", "1", explore(desk, model));
                    same("register " + what + " is " + value, registers + value + "00" + (3 - value), items(desk, 0));
                }
            }
        }
    }

    static void promise4TermsAStoreKeepsTheNumberThatTheRegisterHad() {
        OutcomeDesk desk = desk(row(0, STORE, 0, 3), row(0, LOAD, 0, 1), row(0, STORE_REGISTER, 1, 1), row(0, LOAD, 2, 1));
        for (int model = 0; model < 3; model++) {
            same("explore", "1", explore(desk, model));
            same("word 1 is what the register was", "0000000000000000" + "3300", items(desk, 0));
        }
    }

    // "COUNT: REGISTER b gets WORD a, which is 1 more then (0 behind 3)"

    static void promise4TermsCountIs0Behind3() {
        for (int word = 0; word < 4; word++) {
            countFrom(word, 3, 0, '0');
            countFrom(word, 3, 0, '3');
        }
    }

    static void promise4TermsCountIs1MoreUpTo3() {
        for (int word = 0; word < 4; word++) {
            for (int value = 0; value < 3; value++) {
                countFrom(word, value, value + 1, '0');
                countFrom(word, value, value + 1, '3');
            }
        }
    }

    /** The other words have a number that nothing may be carried to. */
    private static void countFrom(int word, int value, int then, char others) {
        for (int register = 0; register < 4; register++) {
            OutcomeDesk desk = desk(row(2, STORE, word, value), row(2, FENCE, 0, 0), row(2, COUNT, word, register));
            for (int other = 1; other < 4; other++) {
                fill(desk, row(1, STORE, (word + other) % 4, others - '0'));
            }
            StringBuilder due = new StringBuilder("0000000000000000");
            due.setCharAt(8 + register, (char) ('0' + value));
            for (int w = 0; w < 4; w++) {
                due.append(w == word ? (char) ('0' + then) : others);
            }
            for (int model = 0; model < 3; model++) {
                same("explore", "1", explore(desk, model));
                same("count word " + word + " from " + value, due, items(desk, 0));
            }
        }
    }

    static void promise4TermsCountRoundAndOn() {
        OutcomeDesk desk = desk(row(3, COUNT, 2, 0), row(3, COUNT, 2, 1), row(3, COUNT, 2, 2), row(3, COUNT, 2, 3),
            row(3, COUNT, 2, 0), row(3, COUNT, 2, 1));
        for (int model = 0; model < 3; model++) {
            same("explore", "1", explore(desk, model));
            same("0 1 2 3 0 1", "0000000000000123" + "0020 [3, 3, 3, 3, 3, 3]", told(desk, 0));
        }
    }

    // "SWAP REGISTER b and WORD a"

    static void promise4TermsSwapTheLeastAndTheMost() {
        for (int inWord = 0; inWord < 4; inWord++) {
            for (int inRegister = 0; inRegister < 4; inRegister++) {
                OutcomeDesk desk = desk(row(1, STORE, 3, inRegister), row(1, LOAD, 3, 3), row(1, STORE, 3, inWord),
                    row(1, FENCE, 0, 0), row(1, SWAP, 3, 3));
                for (int model = 0; model < 3; model++) {
                    same("explore", "1", explore(desk, model));
                    same("swap " + inRegister + " and " + inWord, "0000000" + inWord + "00000000" + "000" + inRegister, items(desk, 0));
                }
            }
        }
    }

    // "SKIP the next a (1 .. 3) if REGISTER b is 0 (those that there are)"

    static void promise4TermsSkipIfTheRegisterIs0AndNotIfItIs1To3() {
        for (int what = 0; what < 16; what++) {
            for (int value = 0; value < 4; value++) {
                int thread = what / 4;
                // the next register is 0 just when this one is not: it does not count
                int other = (what + 1) % 4;
                OutcomeDesk desk = desk(row(thread, STORE, 0, value), row(thread, LOAD, 0, what % 4),
                    row(thread, STORE, 1, value == 0 ? 2 : 0), row(thread, LOAD, 1, other),
                    row(thread, SKIP, 1, what % 4), row(thread, STORE, 2, 3));
                for (int model = 0; model < 3; model++) {
                    same("explore", "1", explore(desk, model));
                    same("skip if " + value + " is 0", value == 0 ? "0" : "3", outcome(desk, 0, 18));
                }
            }
        }
    }

    static void promise4TermsSkipAsManyAsItSays() {
        for (int a = 1; a <= 3; a++) {
            for (int behind = a + 1; behind <= 5; behind++) {
                skipOf(a, behind, behind - a);
            }
        }
    }

    static void promise4TermsSkipAllThatThereAre() {
        for (int a = 1; a <= 3; a++) {
            skipOf(a, a, 0);
        }
    }

    static void promise4TermsSkipFewerThanItSays() {
        for (int a = 2; a <= 3; a++) {
            for (int behind = 1; behind < a; behind++) {
                skipOf(a, behind, 0);
            }
        }
    }

    static void promise4TermsSkipWhereThereIsNoneMore() {
        for (int a = 1; a <= 3; a++) {
            skipOf(a, 0, 0);
        }
    }

    /** So many instructions stand behind the skip, and so many of them are left. */
    private static void skipOf(int a, int behind, int left) {
        OutcomeDesk desk = desk(row(1, SKIP, a, 3));
        for (int n = 0; n < behind; n++) {
            fill(desk, row(1, COUNT, 1, 0));
        }
        // another thread has instructions that are not to be skipped
        fill(desk, row(2, COUNT, 2, 0));
        for (int model = 0; model < 3; model++) {
            same("explore", "1", explore(desk, model));
            same("moves of skip " + a + " of " + behind, 2 + left, outcome(desk, 0, 20));
            same("counted behind skip " + a + " of " + behind, left % 4, outcome(desk, 0, 17));
            counts(desk, 2 + behind, 2 * (2 + left), 1, 1 + left, 2 + left);
        }
    }

    static void promise4TermsSkipAtTheLastPlaceOfAFullThread() {
        for (int a = 1; a <= 3; a++) {
            for (int last = 3; last <= 6; last++) {
                OutcomeDesk desk = new OutcomeDesk();
                for (int n = 1; n <= 6; n++) {
                    fill(desk, n == last ? row(0, SKIP, a, 1) : row(0, STORE, 0, n % 4));
                }
                fill(desk, row(1, STORE, 1, 3));
                int left = Math.max(0, 6 - last - a);
                for (int model = 0; model < 3; model++) {
                    same("explore", "1", explore(desk, model));
                    int moves = last + left + 1;
                    int stores = moves - 1;
                    same("moves", model == 0 ? moves : moves + stores, outcome(desk, 0, 20));
                    same("word 0", (left > 0 ? 6 : last - 1) % 4, outcome(desk, 0, 16));
                    same("word 1", "3", outcome(desk, 0, 17));
                }
            }
        }
    }

    static void promise4TermsSkippedOrNotTheEndIsOnePlace() {
        for (int a = 1; a <= 3; a++) {
            // some ways skip the last load and some go through it: they meet where thread 0 has ended
            OutcomeDesk desk = desk(row(0, LOAD, 0, 0), row(0, SKIP, a, 0), row(0, LOAD, 1, 0), row(1, STORE, 0, 1));
            same("explore", "1", explore(desk, 0));
            counts(desk, 4, 8, 1, 2, 3);
        }
    }

    static void promise4TermsASkipMaySkipASkip() {
        OutcomeDesk desk = desk(row(0, SKIP, 1, 0), row(0, SKIP, 3, 0), row(0, STORE, 0, 1), row(0, STORE, 1, 2));
        same("explore", "1", explore(desk, 0));
        same("only the one behind it", "0000000000000000" + "1200 [0, 0, 0]", told(desk, 0));
    }

    // "it goes into the BUFFER, which holds 2 at most: as long as there are 2, the thread can't go on with it"

    static void promise4TermsModel0HasNoBuffer() {
        OutcomeDesk desk = desk(row(3, STORE, 0, 1), row(3, STORE, 1, 2), row(3, STORE_REGISTER, 2, 0), row(3, STORE, 3, 3),
            row(3, STORE, 0, 2), row(3, STORE, 1, 3));
        same("explore", "1", explore(desk, 0));
        same("each at once", "0000000000000000" + "2303 [3, 3, 3, 3, 3, 3]", told(desk, 0));
        counts(desk, 6, 7, 1, 0, 6);
    }

    static void promise4TermsTheBufferTakes2() {
        for (int number = STORE; number <= STORE_REGISTER; number++) {
            OutcomeDesk desk = desk(row(2, number, 0, 0), row(2, number, 1, 0));
            same("explore", "1", explore(desk, 1));
            same("both wait at once", "[2, 2, 12, 13]", way(desk, 0));
            // by place and how many wait: 0; 1, 0; 2, 1, 0
            counts(desk, 2, 6, 1, 1, 4);
            same("explore", "1", explore(desk, 2));
            // at the end either one of the two may be left
            counts(desk, 2, 7, 1, 2, 4);
        }
    }

    static void promise4TermsTheBufferDoesNotTake3() {
        for (int number = STORE; number <= STORE_REGISTER; number++) {
            OutcomeDesk desk = desk(row(2, number, 0, 0), row(2, number, 1, 0), row(2, number, 2, 0));
            same("explore", "1", explore(desk, 1));
            same("the third waits for the first to go", "[2, 2, 12, 2, 13, 14]", way(desk, 0));
            // by place and how many wait: 0; 1, 0; 2, 1, 0; 2, 1, 0
            counts(desk, 3, 9, 1, 2, 6);
            same("explore", "1", explore(desk, 2));
            same("the third waits for the first to go", "[2, 2, 12, 2, 13, 14]", way(desk, 0));
            // which wait: -; 0, -; 01, 0, 1, -; 02, 12, 0, 1, 2, -
            counts(desk, 3, 13, 1, 6, 6);
        }
    }

    static void promise4TermsTheBufferTakesOneMoreWhenOneWent() {
        OutcomeDesk desk = desk(row(0, STORE, 0, 1), row(0, STORE, 0, 2), row(0, STORE, 0, 3),
            row(0, STORE, 0, 1), row(0, STORE, 0, 2), row(0, STORE, 0, 3));
        for (int model = 1; model <= 2; model++) {
            same("explore", "1", explore(desk, model));
            same("one goes, one comes", "0000000000000000" + "3000 [0, 0, 4, 0, 4, 0, 4, 0, 4, 0, 4, 4]", told(desk, 0));
            // by place and how many wait: 0; 1, 0; and five times 2, 1, 0
            counts(desk, 6, 18, 1, 5, 12);
        }
    }

    static void promise4TermsTheBufferCountsStoresToOneWordToo() {
        OutcomeDesk desk = desk(row(1, STORE, 3, 0), row(1, STORE, 3, 0), row(1, STORE, 3, 0));
        for (int model = 1; model <= 2; model++) {
            same("explore", "1", explore(desk, model));
            same("the third waits", "[1, 1, 11, 1, 11, 11]", way(desk, 0));
            counts(desk, 3, 9, 1, 2, 6);
        }
    }

    static void promise4TermsEachThreadHasItsOwnBufferOf2() {
        OutcomeDesk desk = new OutcomeDesk();
        for (int thread = 0; thread < 4; thread++) {
            fill(desk, row(thread, STORE, thread, 3), row(thread, STORE, thread, 2));
        }
        for (int model = 1; model <= 2; model++) {
            same("explore", "1", explore(desk, model));
            same("eight wait at once", "0000000000000000" + "2222 [0, 0, 1, 1, 2, 2, 3, 3, 4, 4, 9, 9, 14, 14, 19, 19]",
                told(desk, 0));
            same("states", 6 * 6 * 6 * 6, desk.count(1));
        }
    }

    static void promise4TermsAFullBufferStopsStoresAlone() {
        int[][] rows = {row(0, LOAD, 2, 0), row(0, SKIP, 1, 0)};
        for (int[] third : rows) {
            OutcomeDesk desk = desk(row(0, STORE, 0, 0), row(0, STORE, 1, 0), third);
            same("explore", "1", explore(desk, 1));
            same("it does not wait", "[0, 0, 0, 4, 5]", way(desk, 0));
            // by place and how many wait: 0; 1, 0; 2, 1, 0; 2, 1, 0
            counts(desk, 3, 9, 1, 3, 5);
        }
    }

    // "LOAD gives what the latest STORE to that WORD in its own BUFFER has, if there is one."

    static void promise4TermsLoadFromTheOnlyStoreThatWaits() {
        OutcomeDesk desk = desk(row(0, STORE, 1, 3), row(0, LOAD, 1, 0), row(1, STORE, 1, 2));
        for (int model = 1; model <= 2; model++) {
            // register 0: 3, or 2 if both went and the other one went later; word 1 is then 2
            same("explore", "3", explore(desk, model));
            same("never 0", 0, desk.may(0, 0));
            same("its own", 2, desk.may(0, 3));
            same("outcome 0", "2000000000000000" + "0200", items(desk, 0));
        }
    }

    static void promise4TermsLoadFromTheLatestOf2ThatWait() {
        OutcomeDesk desk = desk(row(0, STORE, 1, 3), row(0, STORE, 1, 1), row(0, LOAD, 1, 0));
        for (int model = 0; model < 3; model++) {
            same("explore", "1", explore(desk, model));
            same("the latest", "1000000000000000" + "0100", items(desk, 0));
        }
    }

    static void promise4TermsLoadFromTheEarlierOneIfTheLatestIsToAnotherWord() {
        OutcomeDesk desk = desk(row(0, STORE, 1, 3), row(0, STORE, 2, 1), row(0, LOAD, 1, 0));
        for (int model = 0; model < 3; model++) {
            same("explore", "1", explore(desk, model));
            same("the one to that word", "3000000000000000" + "0310", items(desk, 0));
        }
    }

    static void promise4TermsLoadFromTheWordIfNoneWaitsForIt() {
        OutcomeDesk desk = desk(row(0, STORE, 1, 3), row(0, STORE, 2, 1), row(0, LOAD, 0, 0), row(1, STORE, 0, 2));
        for (int model = 0; model < 3; model++) {
            same("explore", "2", explore(desk, model));
            same("before", "0000000000000000" + "2310", items(desk, 0));
            same("behind", "2000000000000000" + "2310", items(desk, 1));
        }
    }

    static void promise4TermsLoadDoesNotSeeTheBufferOfAnother() {
        OutcomeDesk desk = desk(row(0, STORE, 1, 3), row(1, LOAD, 1, 0));
        for (int model = 1; model <= 2; model++) {
            same("explore", "2", explore(desk, model));
            same("it waits yet", "0000000000000000" + "0300 [0, 1, 5]", told(desk, 0));
            same("it went", "0000300000000000" + "0300 [0, 5, 1]", told(desk, 1));
        }
    }

    static void promise4TermsLoadAStoreOf0ThatWaits() {
        // the 0 that waits counts, not the 3 in the word
        OutcomeDesk desk = desk(row(0, STORE, 0, 3), row(0, FENCE, 0, 0), row(0, STORE, 0, 0), row(0, LOAD, 0, 0));
        for (int model = 0; model < 3; model++) {
            same("explore", "1", explore(desk, model));
            same("0", "0000000000000000" + "0000", items(desk, 0));
        }
    }

    // "FENCE, SWAP and COUNT: only when the own BUFFER is empty."

    static void promise4TermsFenceSwapAndCountWithAnEmptyBuffer() {
        for (int number = FENCE; number <= COUNT; number++) {
            OutcomeDesk desk = desk(row(1, number, 0, 0));
            for (int model = 0; model < 3; model++) {
                same("explore", "1", explore(desk, model));
                same("at once", "[1]", way(desk, 0));
                counts(desk, 1, 2, 1, 0, 1);
            }
        }
    }

    static void promise4TermsFenceSwapAndCountWaitFor1() {
        for (int number = FENCE; number <= COUNT; number++) {
            OutcomeDesk desk = desk(row(1, STORE, 2, 1), row(1, number, 0, 0));
            for (int model = 1; model <= 2; model++) {
                same("explore", "1", explore(desk, model));
                same("behind the one", "[1, 10, 1]", way(desk, 0));
                counts(desk, 2, 4, 1, 0, 3);
            }
        }
    }

    static void promise4TermsFenceSwapAndCountWaitFor2() {
        for (int number = FENCE; number <= COUNT; number++) {
            OutcomeDesk desk = desk(row(1, STORE, 2, 1), row(1, STORE, 3, 1), row(1, number, 0, 0));
            same("explore", "1", explore(desk, 1));
            same("behind both", "[1, 1, 10, 11, 1]", way(desk, 0));
            counts(desk, 3, 7, 1, 1, 5);
            same("explore", "1", explore(desk, 2));
            same("behind both", "[1, 1, 10, 11, 1]", way(desk, 0));
            counts(desk, 3, 8, 1, 2, 5);
        }
    }

    static void promise4TermsFenceSwapAndCountInModel0WaitForNothing() {
        for (int number = FENCE; number <= COUNT; number++) {
            OutcomeDesk desk = desk(row(1, STORE, 2, 1), row(1, STORE, 3, 1), row(1, number, 0, 0));
            same("explore", "1", explore(desk, 0));
            same("at once", "[1, 1, 1]", way(desk, 0));
        }
    }

    static void promise4TermsFenceSwapAndCountDoNotWaitForAnothersBuffer() {
        for (int number = FENCE; number <= COUNT; number++) {
            OutcomeDesk desk = desk(row(0, STORE, 2, 1), row(0, STORE, 2, 1), row(1, number, 0, 0));
            for (int model = 1; model <= 2; model++) {
                same("explore", "1", explore(desk, model));
                same("both wait", "[0, 0, 1, 6, 6]", way(desk, 0));
                same("states", 12, desk.count(1));
            }
        }
    }

    // "MOVES: t (0 .. 3)", "4 + 4 t + w"

    static void promise7TermsMovesOfThreadsAre0To3() {
        for (int thread = 0; thread < 4; thread++) {
            OutcomeDesk desk = desk(row(thread, LOAD, 0, 0));
            for (int model = 0; model < 3; model++) {
                same("explore", "1", explore(desk, model));
                same("the thread's move", "[" + thread + "]", way(desk, 0));
                counts(desk, 1, 2, 1, 0, 1);
            }
        }
    }

    static void promise7TermsMovesOfBuffersAre4To19() {
        int due = 4;
        for (int thread = 0; thread < 4; thread++) {
            for (int word = 0; word < 4; word++) {
                OutcomeDesk desk = desk(row(thread, STORE, word, 1));
                for (int model = 1; model <= 2; model++) {
                    same("explore", "1", explore(desk, model));
                    same("the buffer's move", "[" + thread + ", " + due + "]", way(desk, 0));
                    counts(desk, 1, 3, 1, 0, 2);
                }
                due++;
            }
        }
    }

    static void promise5TermsAThreadWithoutANextInstructionHasNoMove() {
        OutcomeDesk desk = desk(row(2, FENCE, 0, 0));
        same("explore", "1", explore(desk, 1));
        counts(desk, 1, 2, 1, 0, 1);
    }

    static void promise4TermsModel1OnlyTheEarliestOfAll() {
        // thread 1 sees the second store of thread 0 before the first one: not in model 1
        OutcomeDesk desk = desk(row(0, STORE, 3, 1), row(0, STORE, 0, 1), row(1, LOAD, 0, 0), row(1, LOAD, 3, 1));
        same("explore", "3", explore(desk, 1));
        same("00", "0000000000000000" + "1001", items(desk, 0));
        same("01", "0000010000000000" + "1001", items(desk, 1));
        same("11", "0000110000000000" + "1001", items(desk, 2));
    }

    static void promise4TermsModel2TheEarliestToItsWord() {
        OutcomeDesk desk = desk(row(0, STORE, 3, 1), row(0, STORE, 0, 1), row(1, LOAD, 0, 0), row(1, LOAD, 3, 1));
        same("explore", "4", explore(desk, 2));
        same("10", "0000100000000000" + "1001 [0, 0, 4, 1, 1, 7]", told(desk, 2));
    }

    static void promise4TermsModel2NotBeforeAnEarlierOneToItsWord() {
        // thread 1 sees 1 and then 2, never 2 and then 1
        OutcomeDesk desk = desk(row(0, STORE, 2, 1), row(0, STORE, 2, 2), row(1, LOAD, 2, 0), row(1, LOAD, 2, 1));
        for (int model = 0; model < 3; model++) {
            same("explore", "6", explore(desk, model));
            String[] due = {"00", "01", "02", "11", "12", "22"};
            for (int k = 0; k < due.length; k++) {
                same("outcome " + k, "0000" + due[k] + "0000000000" + "0020", items(desk, k));
            }
        }
    }

    static void promise4TermsModel2TheLaterOneGoesFirstAndTheEarlierOneStays() {
        // the later one goes, another comes behind the one that stays, which its own thread still sees
        OutcomeDesk desk = desk(row(0, STORE, 1, 1), row(0, STORE, 0, 2), row(0, STORE, 3, 3), row(0, LOAD, 1, 0),
            row(1, LOAD, 3, 0), row(1, LOAD, 1, 1));
        same("explore", "3", explore(desk, 1));
        same("explore", "4", explore(desk, 2));
        same("word 3 before word 1", "1000300000000000" + "2103 [0, 0, 4, 0, 0, 7, 1, 1, 5]", told(desk, 2));
    }

    // "A STATE: where each thread is, BUFFERS, REGISTERS, WORDS."

    static void promise5TermsStatesThatDifferOnlyInWhereAThreadIs() {
        OutcomeDesk desk = desk(row(0, SKIP, 1, 0), row(0, FENCE, 0, 0), row(0, LOAD, 0, 0), row(0, STORE, 0, 0));
        same("explore", "1", explore(desk, 0));
        counts(desk, 4, 4, 1, 0, 3);
    }

    static void promise5TermsStatesThatDifferOnlyInABuffer() {
        // a 0 that waits for a word that is 0: to wait and to have gone are two states
        OutcomeDesk desk = desk(row(0, STORE, 0, 0));
        same("explore", "1", explore(desk, 1));
        counts(desk, 1, 3, 1, 0, 2);
    }

    static void promise5TermsStatesThatMeetAreOne() {
        OutcomeDesk desk = desk(row(0, LOAD, 0, 0), row(1, LOAD, 1, 0), row(2, LOAD, 2, 0), row(3, LOAD, 3, 0));
        for (int model = 0; model < 3; model++) {
            same("explore", "1", explore(desk, model));
            counts(desk, 4, 16, 1, 11, 4);
        }
    }

    // "An OUTCOME is a STATE in which no thread has an INSTRUCTION left and all BUFFERS are empty."

    static void promise6TermsNoOutcomeAsLongAsOneWaits() {
        OutcomeDesk desk = desk(row(0, STORE, 0, 1), row(0, STORE, 1, 1));
        for (int model = 1; model <= 2; model++) {
            same("explore", "1", explore(desk, model));
            same("both went", "0000000000000000" + "1100", items(desk, 0));
        }
    }

    static void promise6TermsNoOutcomeAsLongAsAThreadHasOneLeft() {
        OutcomeDesk desk = desk(row(0, COUNT, 0, 0), row(3, COUNT, 0, 0), row(3, COUNT, 1, 1));
        same("explore", "2", explore(desk, 0));
        same("all counted", 2, desk.may(16, 2));
        same("all counted", 2, desk.may(17, 1));
    }

    static void promise6TermsTheBeginningIsAnOutcomeIfThereIsNothing() {
        OutcomeDesk desk = desk(row(0, COUNT, 0, 0));
        same("clear", 1, desk.clear(0));
        for (int model = 0; model < 3; model++) {
            same("explore", "1", explore(desk, model));
            same("the beginning", "00000000000000000000 []", told(desk, 0));
            counts(desk, 0, 1, 1, 0, 0);
        }
    }

    // "MOVES from the beginning to it, as few as there can be; of several such rows that in which the first MOVE that differs is less"

    static void promise7TermsAShorterWayBeforeALesserOne() {
        // [0, 1, 1, 1] is less than [1, 0, 1] and leads to the same outcome: the skipped load gives 0 too
        OutcomeDesk desk = desk(row(0, STORE, 0, 1), row(1, LOAD, 0, 0), row(1, SKIP, 1, 0), row(1, LOAD, 1, 0));
        same("explore", "1", explore(desk, 0));
        same("the shorter one", "0000000000000000" + "1000 [1, 0, 1]", told(desk, 0));
        same("the longest shortest row", 3, desk.count(4));
    }

    static void promise7TermsTheFirstMoveThatDiffersIsLess() {
        OutcomeDesk desk = desk(row(3, LOAD, 0, 0), row(2, LOAD, 0, 0), row(1, LOAD, 0, 0), row(0, LOAD, 0, 0), row(0, LOAD, 0, 0));
        same("explore", "1", explore(desk, 2));
        same("the least", "[0, 0, 1, 2, 3]", way(desk, 0));
    }

    static void promise7TermsAThreadsMoveIsLessThanABuffersMove() {
        OutcomeDesk desk = desk(row(0, STORE, 0, 1), row(3, STORE, 3, 1), row(3, STORE, 0, 1));
        same("explore", "1", explore(desk, 2));
        same("the least", "[0, 3, 3, 4, 16, 19]", way(desk, 0));
        same("explore", "1", explore(desk, 1));
        same("the least in model 1", "[0, 3, 3, 4, 19, 16]", way(desk, 0));
    }
}
