/**
 * One test for each sentence of the document that names a boundary: the last value inside and the
 * first one outside, the empty and the full. What a refused call leaves alone is in RefusalTests.
 */
public final class BoundaryTests {
    /** Its lower 32 bits are 0, so that a value beside it looks small to who cuts it to an int. */
    private static final long WRAP = 1L << 32;
    /** Twelve primes: their products wrap around below 0 at 3 of them in an int, at 5 in a long. */
    private static final int[] LARGE_PRIMES = {19997, 19993, 19991, 19979, 19973, 19963, 19961, 19949,
        19937, 19927, 19919, 19913};

    /** Of the ordinary sample: chain 2 is empty, the others are none. */
    private static final int[] WITHOUT_PIECES = {0, -1, 2, 3, 20, 21, Integer.MIN_VALUE, Integer.MAX_VALUE};

    public static void main(String[] args) {
        Answers.test("an object is used for at most 512 calls", BoundaryTests::the512thCall);
        terms();
        promises2To4();
        promises5To9();
        promises10To12();
        Answers.end();
    }

    private static void terms() {
        Answers.test("PIECES are numbered from 1 on", BoundaryTests::piecesFromOne);
        Answers.test("at most 30 pieces", BoundaryTests::atMost30Pieces);
        Answers.test("a clock is at first 0 / 1", BoundaryTests::clockAtFirst);
        Answers.test("LONG PERIOD is upwards", BoundaryTests::longPeriodUpwards);
        Answers.test("CHAINS are numbered from 1 on", BoundaryTests::chainsFromOne);
        Answers.test("at most 20 chains", BoundaryTests::atMost20Chains);
        Answers.test("a row of at most 12 pieces", BoundaryTests::atMost12InARow);
        Answers.test("the first one is always SAMPLING", BoundaryTests::firstIsSampling);
        Answers.test("a piece may be in many chains, in one once", BoundaryTests::inManyChains);
        Answers.test("WORST REACTION: the least and the most", BoundaryTests::worstReactionEnds);
        Answers.test("WORST AGE: the last SAMPLING one", BoundaryTests::lastSamplingOne);
        Answers.test("BEST REACTION and BEST AGE: the least and the most", BoundaryTests::bestEnds);
        Answers.test("STEPPED: the clocks of all its pieces are right", BoundaryTests::allClocksRight);
        Answers.test("STEPPED: m is at most 20000", BoundaryTests::cycleAtMost20000);
        Answers.test("STEPPED: of its SAMPLING pieces", BoundaryTests::samplingPeriodsAlone);
        Answers.test("STEPPED: for each t of 0 .. m - 1", BoundaryTests::eachMoment);
        Answers.test("STEPPED: not before it comes there", BoundaryTests::beginsWhenItComes);
        Answers.test("STEPPED: otherwise the WORST REACTION", BoundaryTests::otherwiseWorstReaction);
        Answers.test("promise 1: no pieces, no chains", BoundaryTests::newObjectIsEmpty);
    }

    private static void promises2To4() {
        Answers.test("promise 2: no such kind", BoundaryTests::kinds);
        Answers.test("promise 2: the PERIOD is 0 .. 20000", BoundaryTests::periods);
        Answers.test("promise 2: the ANSWER is 0 .. 20000", BoundaryTests::answers);
        Answers.test("promise 2: one with the PERIOD 0 may only be SET OFF", BoundaryTests::withoutPeriod);
        Answers.test("promise 3: a chain without pieces", BoundaryTests::chainWithoutPieces);
        Answers.test("promise 4: no such chain", BoundaryTests::addToNoChain);
        Answers.test("promise 4: no such piece", BoundaryTests::addNoPiece);
        Answers.test("promise 4: SAMPLING without PERIOD", BoundaryTests::addWithoutPeriod);
        Answers.test("promise 4: 0 if it is in it already", BoundaryTests::addAgain);
    }

    private static void promises5To9() {
        Answers.test("promises 5 and 6: no chain, or no pieces", BoundaryTests::sumsOfNothing);
        Answers.test("promise 7: there is no piece", BoundaryTests::clockOfNoPiece);
        Answers.test("promise 7: 0 if it has none", BoundaryTests::clockWithoutPeriod);
        Answers.test("promise 7: down is 1 .. 1000000", BoundaryTests::clockDown);
        Answers.test("promise 7: up is 0 .. down - 1", BoundaryTests::clockUp);
        Answers.test("promise 8: no chain, or no pieces", BoundaryTests::wishOfNothing);
        Answers.test("promise 8: micros are not below 0", BoundaryTests::wishMicros);
        Answers.test("promise 8: the WORST REACTION keeps it", BoundaryTests::wishJustKept);
        Answers.test("promise 8: instead of one told before", BoundaryTests::wishInstead);
        Answers.test("promise 9: thousandths, downwards", BoundaryTests::shareDownwards);
        Answers.test("promise 9: no such chain or piece of it", BoundaryTests::shareOfNothing);
        Answers.test("promise 9: the WORST REACTION is 0", BoundaryTests::shareOfTheLeast);
        Answers.test("promise 9: i = -1, how many WISHES all chains keep now", BoundaryTests::wishesOfAllChains);
    }

    private static void promises10To12() {
        Answers.test("promise 10: at most 1000000000", BoundaryTests::cycleLimit);
        Answers.test("promise 10: a multiple beyond an int or a long", BoundaryTests::cycleWraps);
        Answers.test("promise 10: no chain, or no pieces", BoundaryTests::cycleOfNothing);
        Answers.test("promise 10: one of them has no PERIOD", BoundaryTests::cycleWithoutPeriod);
        Answers.test("promise 11: no chain, or no pieces", BoundaryTests::steppedOfNothing);
        Answers.test("promise 12: false if there is no chain, or no pieces", BoundaryTests::plainOfNothing);
    }

    private static void the512thCall() {
        ChainSums x = Samples.ordinary();
        for (int call = 10; call <= 511; call++) {
            Answers.due("call " + call, x.worst(1, false), 26);
        }
        Answers.due("call 512", x.stepped(1), 23);
    }

    private static void piecesFromOne() {
        ChainSums x = new ChainSums();
        Answers.due("the first", x.piece(0, 5, 1), 1);
        Answers.due("the second", x.piece(0, 6, 1), 2);
        Answers.due("number 0", x.clock(0, 0, 1), -1);
        Answers.due("number 1", x.clock(1, 0, 1), 5);
        Answers.due("number 2", x.clock(2, 0, 1), 6);
        Answers.due("number 3", x.clock(3, 0, 1), -1);
    }

    private static void atMost30Pieces() {
        ChainSums x = new ChainSums();
        for (int n = 1; n <= 30; n++) {
            Answers.due("piece " + n, x.piece(0, n, 0), n);
        }
        Answers.due("piece 31", x.piece(0, 31, 0), -4);
        Answers.due("the 30th is there", x.clock(30, 0, 1), 30);
        Answers.due("the 31st is not", x.clock(31, 0, 1), -1);
    }

    private static void clockAtFirst() {
        ChainSums x = Samples.sampling(20000, 0);
        Answers.due("the period is not made longer", x.worst(1, false), 20000);
        Answers.due("the clock is right", x.plain(1), true);
    }

    private static void longPeriodUpwards() {
        ChainSums x = new ChainSums();
        x.piece(0, 1, 0);
        x.piece(0, 100, 0);
        x.piece(0, 20000, 0);
        Answers.due("no rest", x.clock(2, 1, 100), 101);
        Answers.due("the least rest", x.clock(2, 100001, 1000000), 111);
        Answers.due("just no rest", x.clock(2, 100000, 1000000), 110);
        Answers.due("the most rest", x.clock(2, 99999, 1000000), 110);
        Answers.due("the least period, a little wrong", x.clock(1, 1, 1000000), 2);
        Answers.due("the least period, nearly twice", x.clock(1, 999999, 1000000), 2);
        Answers.due("the longest, beyond an int", x.clock(3, 999999, 1000000), 40000);
        Answers.due("the longest, a little wrong", x.clock(3, 1, 1000000), 20001);
        Answers.due("the longest, by a whole", x.clock(3, 50, 1000000), 20001);
        Answers.due("the longest, above a whole", x.clock(3, 51, 1000000), 20002);
    }

    private static void chainsFromOne() {
        ChainSums x = new ChainSums();
        x.piece(0, 5, 1);
        Answers.due("the first", x.chain(), 1);
        Answers.due("the second", x.chain(), 2);
        Answers.due("number 0", x.add(0, 1, false), -1);
        Answers.due("number 1", x.add(1, 1, false), 1);
        Answers.due("number 2", x.add(2, 1, false), 1);
        Answers.due("number 3", x.add(3, 1, false), -1);
    }

    private static void atMost20Chains() {
        ChainSums x = new ChainSums();
        x.piece(0, 5, 1);
        for (int n = 1; n <= 20; n++) {
            Answers.due("chain " + n, x.chain(), n);
        }
        Answers.due("chain 21", x.chain(), -4);
        Answers.due("the 20th is there", x.add(20, 1, false), 1);
        Answers.due("the 21st is not", x.add(21, 1, false), -1);
    }

    private static void atMost12InARow() {
        ChainSums x = Samples.full();
        Answers.due("the 12th is there", x.share(1, 11), 24 * 1000 / 156);
        Answers.due("the 13th, sampling", x.add(1, 13, false), -4);
        Answers.due("the 13th, set off", x.add(1, 13, true), -4);
        Answers.due("the 13th is not there", x.share(1, 12), -1);
        Answers.due("the 12 as before", x.worst(1, false), 156);
        Answers.due("another chain has room", x.add(2, 13, false), 1);
    }

    private static void firstIsSampling() {
        ChainSums x = new ChainSums();
        x.piece(0, 10, 3);
        x.piece(0, 4, 2);
        x.chain();
        Answers.due("the first, told set off", x.add(1, 1, true), 1);
        Answers.due("its period counts", x.worst(1, false), 13);
        Answers.due("the second, told set off", x.add(1, 2, true), 1);
        Answers.due("its period does not", x.worst(1, false), 15);
    }

    private static void inManyChains() {
        ChainSums x = new ChainSums();
        x.piece(0, 10, 3);
        for (int n = 1; n <= 20; n++) {
            x.chain();
            Answers.due("in chain " + n, x.add(n, 1, false), 1);
            Answers.due("in chain " + n + " once more", x.add(n, 1, true), 0);
            Answers.due("chain " + n + " has it once", x.best(n, false), 3);
        }
    }

    private static void worstReactionEnds() {
        Answers.due("the least", Samples.sampling(1, 0).worst(1, false), 1);
        Answers.due("the least age", Samples.sampling(1, 0).worst(1, true), 1);
        ChainSums x = new ChainSums();
        x.chain();
        for (int n = 1; n <= 12; n++) {
            x.piece(0, 20000, 20000);
            x.clock(n, 999999, 1000000);
            x.add(1, n, false);
        }
        Answers.due("the most", x.worst(1, false), 720000);
        Answers.due("the most age", x.worst(1, true), 720000);
        Answers.due("the most, kept", x.wish(1, 720000), 1);
        Answers.due("the most, not kept", x.wish(1, 719999), 0);
    }

    private static void lastSamplingOne() {
        ChainSums x = new ChainSums();
        long[] periods = {100, 30, 7};
        for (long period : periods) {
            x.piece(0, period, 0);
        }
        x.chain();
        x.add(1, 1, false);
        Answers.due("the first is the last", x.worst(1, true), 100);
        x.add(1, 2, true);
        Answers.due("one set off behind it", x.worst(1, true), 100);
        x.chain();
        x.add(2, 1, false);
        x.add(2, 2, false);
        Answers.due("the last is sampling", x.worst(2, true), 30 + 30);
        x.add(2, 3, true);
        Answers.due("the last but one is sampling", x.worst(2, true), 30 + 30);
        x.chain();
        x.add(3, 1, false);
        x.add(3, 2, true);
        x.add(3, 3, false);
        Answers.due("one set off between", x.worst(3, true), 7 + 7);
    }

    private static void bestEnds() {
        Answers.due("the least", Samples.sampling(1, 0).best(1, false), 0);
        Answers.due("the least age", Samples.sampling(1, 0).best(1, true), 0);
        Answers.due("the age of one piece", Samples.sampling(1, 20000).best(1, true), 0);
        ChainSums x = new ChainSums();
        x.chain();
        for (int n = 1; n <= 12; n++) {
            x.add(1, x.piece(0, 1, 20000), n % 2 == 0);
        }
        Answers.due("the most", x.best(1, false), 240000);
        Answers.due("the most age", x.best(1, true), 220000);
    }

    private static void allClocksRight() {
        ChainSums x = Samples.ordinary();
        for (int n = 1; n <= 3; n++) {
            x.clock(n, 1, 1000000);
            Answers.due("piece " + n + " is a little wrong", x.plain(1), false);
            Answers.due("then it is the worst reaction", x.stepped(1), x.worst(1, false));
            x.clock(n, 0, 1000000);
            Answers.due("piece " + n + " is right", x.plain(1), true);
            Answers.due("then it is stepped", x.stepped(1), 23);
        }
        x.clock(4, 1, 2);
        Answers.due("a piece of no chain is wrong", x.plain(1), true);
    }

    private static void cycleAtMost20000() {
        ChainSums one = Samples.sampling(20000, 0);
        Answers.due("one of 20000", one.plain(1), true);
        Answers.due("one of 20000, stepped", one.stepped(1), 19999);
        ChainSums alike = Samples.sampling(20000, 0, 20000, 0, 10000, 0);
        Answers.due("the multiple, not the product", alike.plain(1), true);
        Answers.due("the multiple, stepped", alike.stepped(1), 19999);
        ChainSums inside = Samples.sampling(32, 0, 625, 0);
        Answers.due("20000", inside.plain(1), true);
        Answers.due("20000, stepped", inside.stepped(1), 655);
        ChainSums outside = Samples.sampling(59, 0, 339, 0);
        Answers.due("20001", outside.plain(1), false);
        Answers.due("20001, not stepped", outside.stepped(1), 398);
        ChainSums wrapped = Samples.sampling(LARGE_PRIMES[0], 0);
        for (int n = 1; n < LARGE_PRIMES.length; n++) {
            wrapped.add(1, wrapped.piece(0, LARGE_PRIMES[n], 0), false);
            Answers.due((n + 1) + " primes, beyond an int and a long", wrapped.plain(1), false);
        }
    }

    private static void samplingPeriodsAlone() {
        ChainSums x = Samples.sampling(20000, 0);
        x.add(1, x.piece(0, 19999, 1), true);
        Answers.due("a period of one set off", x.plain(1), true);
        Answers.due("no begin of it is waited for", x.stepped(1), 20000);
        x.add(1, x.piece(0, 0, 1), true);
        Answers.due("one without period", x.plain(1), true);
        Answers.due("nor for that", x.stepped(1), 20001);
        x.add(1, x.piece(0, 3, 0), false);
        Answers.due("a period of a sampling one", x.plain(1), false);
    }

    private static void eachMoment() {
        Answers.due("m is 1", Samples.sampling(1, 0).stepped(1), 0);
        Answers.due("m is 1, a full row", stepsOfOne(), 12);
        Answers.due("the first moment is the worst", Samples.sampling(1, 1, 4, 0).stepped(1), 4);
        Answers.due("the last moment is the worst", Samples.sampling(1, 2, 4, 0).stepped(1), 5);
        Answers.due("one between is the worst", Samples.sampling(1, 3, 4, 0).stepped(1), 6);
        Answers.due("the first of 20000", Samples.sampling(1, 1, 20000, 0).stepped(1), 20000);
        Answers.due("the last of 20000", Samples.sampling(1, 2, 20000, 0).stepped(1), 20001);
        Answers.due("the first begin is the worst", Samples.sampling(6, 1, 8, 0).stepped(1), 13);
        Answers.due("the last begin is the worst", Samples.sampling(6, 7, 8, 0).stepped(1), 19);
    }

    private static long stepsOfOne() {
        ChainSums x = new ChainSums();
        x.chain();
        for (int n = 1; n <= 12; n++) {
            x.add(1, x.piece(0, 1, 1), false);
        }
        return x.stepped(1);
    }

    private static void beginsWhenItComes() {
        Answers.due("at that very time", Samples.sampling(5, 0, 5, 0).stepped(1), 4);
        Answers.due("one period later", Samples.sampling(5, 5, 5, 0).stepped(1), 9);
        Answers.due("just too late", Samples.sampling(5, 1, 5, 0).stepped(1), 9);
        Answers.due("just too late again", Samples.sampling(5, 6, 5, 0).stepped(1), 14);
    }

    private static void otherwiseWorstReaction() {
        ChainSums x = Samples.sampling(59, 1, 339, 2);
        x.clock(1, 1, 59);
        Answers.due("too long and wrong", x.stepped(1), 60 + 1 + 339 + 2);
        x.clock(1, 0, 1);
        Answers.due("too long", x.stepped(1), 59 + 1 + 339 + 2);
    }

    private static void newObjectIsEmpty() {
        ChainSums x = new ChainSums();
        Answers.due("no chain 0", x.worst(0, false), -1);
        Answers.due("no chain 1", x.worst(1, false), -1);
        Answers.due("no piece 0", x.clock(0, 0, 1), -1);
        Answers.due("no piece 1", x.clock(1, 0, 1), -1);
        Answers.due("no wishes", x.share(1, -1), 0);
        Answers.due("room for a first piece", x.piece(0, 1, 0), 1);
        Answers.due("but no chain for it", x.add(1, 1, false), -1);
        Answers.due("room for a first chain", x.chain(), 1);
        Answers.due("which has no pieces", x.worst(1, false), -1);
    }

    private static void kinds() {
        ChainSums x = new ChainSums();
        Answers.due("kind -1", x.piece(-1, 1, 1), -2);
        Answers.due("kind 0", x.piece(0, 1, 1), 1);
        Answers.due("kind 1", x.piece(1, 1, 1), 2);
        Answers.due("kind 2", x.piece(2, 1, 1), 3);
        Answers.due("kind 3", x.piece(3, 1, 1), -2);
        Answers.due("the least kind", x.piece(Integer.MIN_VALUE, 1, 1), -2);
        Answers.due("the most kind", x.piece(Integer.MAX_VALUE, 1, 1), -2);
    }

    private static void periods() {
        ChainSums x = new ChainSums();
        Answers.due("-1", x.piece(0, -1, 1), -2);
        Answers.due("0", x.piece(0, 0, 1), 1);
        Answers.due("1", x.piece(0, 1, 1), 2);
        Answers.due("20000", x.piece(0, 20000, 1), 3);
        Answers.due("20001", x.piece(0, 20001, 1), -2);
        Answers.due("5, but for a wrap", x.piece(0, WRAP + 5, 1), -2);
        Answers.due("5, but for a wrap below", x.piece(0, 5 - WRAP, 1), -2);
        Answers.due("the least", x.piece(0, Long.MIN_VALUE, 1), -2);
        Answers.due("the most", x.piece(0, Long.MAX_VALUE, 1), -2);
        Answers.due("0 counts as none", x.clock(1, 0, 1), 0);
        Answers.due("1 is kept", x.clock(2, 0, 1), 1);
        Answers.due("20000 is kept", x.clock(3, 0, 1), 20000);
    }

    private static void answers() {
        ChainSums x = new ChainSums();
        Answers.due("-1", x.piece(0, 1, -1), -2);
        Answers.due("0", x.piece(0, 1, 0), 1);
        Answers.due("20000", x.piece(0, 1, 20000), 2);
        Answers.due("20001", x.piece(0, 1, 20001), -2);
        Answers.due("5, but for a wrap", x.piece(0, 1, WRAP + 5), -2);
        Answers.due("5, but for a wrap below", x.piece(0, 1, 5 - WRAP), -2);
        Answers.due("the least", x.piece(0, 1, Long.MIN_VALUE), -2);
        Answers.due("the most", x.piece(0, 1, Long.MAX_VALUE), -2);
        x.chain();
        x.add(1, 1, false);
        Answers.due("0 is kept", x.best(1, false), 0);
        x.add(1, 2, false);
        Answers.due("20000 is kept", x.best(1, false), 20000);
    }

    private static void withoutPeriod() {
        ChainSums x = Samples.ordinary();
        Answers.due("as the first, set off", x.add(2, 3, true), -3);
        Answers.due("as the first, sampling", x.add(2, 3, false), -3);
        x.add(2, 1, false);
        Answers.due("behind, sampling", x.add(2, 3, false), -3);
        Answers.due("behind, set off", x.add(2, 3, true), 1);
        int least = x.piece(0, 1, 0);
        Answers.due("the period 1, sampling", x.add(2, least, false), 1);
        x.chain();
        Answers.due("the period 1, as the first", x.add(3, least, true), 1);
    }

    private static void chainWithoutPieces() {
        ChainSums x = Samples.ordinary();
        Answers.due("a new one", x.chain(), 3);
        Answers.due("has no pieces", x.worst(3, false), -1);
        Answers.due("has no first piece", x.share(3, 0), -1);
        Answers.due("has no wish", x.share(3, -1), 0);
    }

    private static void addToNoChain() {
        ChainSums x = Samples.ordinary();
        Answers.due("0", x.add(0, 4, false), -1);
        Answers.due("-1", x.add(-1, 4, false), -1);
        Answers.due("2", x.add(2, 4, false), 1);
        Answers.due("3", x.add(3, 4, false), -1);
        Answers.due("the least", x.add(Integer.MIN_VALUE, 4, false), -1);
        Answers.due("the most", x.add(Integer.MAX_VALUE, 4, false), -1);
        Answers.due("31, beyond all room", x.add(31, 4, false), -1);
    }

    private static void addNoPiece() {
        ChainSums x = Samples.ordinary();
        Answers.due("0", x.add(2, 0, false), -1);
        Answers.due("-1", x.add(2, -1, false), -1);
        Answers.due("1", x.add(2, 1, false), 1);
        Answers.due("4", x.add(2, 4, false), 1);
        Answers.due("5", x.add(2, 5, false), -1);
        Answers.due("31, beyond all room", x.add(2, 31, false), -1);
        Answers.due("the least", x.add(2, Integer.MIN_VALUE, false), -1);
        Answers.due("the most", x.add(2, Integer.MAX_VALUE, false), -1);
    }

    private static void addWithoutPeriod() {
        ChainSums x = Samples.sampling(5, 0);
        int none = x.piece(2, 0, 20000);
        x.chain();
        Answers.due("sampling", x.add(1, none, false), -3);
        Answers.due("as the first one", x.add(2, none, true), -3);
        Answers.due("set off", x.add(1, none, true), 1);
        Answers.due("as the first one still", x.add(2, none, true), -3);
    }

    private static void addAgain() {
        ChainSums x = Samples.full();
        ChainSums y = Samples.ordinary();
        Answers.due("the first of the row", y.add(1, 1, false), 0);
        Answers.due("the last of the row", y.add(1, 2, false), 0);
        Answers.due("as set off", y.add(1, 2, true), 0);
        Answers.due("one without period", y.add(1, 3, true), 0);
        Answers.due("it stays sampling", y.worst(1, false), 26);
        Answers.due("of the same numbers, but another", y.add(1, y.piece(0, 10, 3), false), 1);
        Answers.due("in a row without room", x.add(1, 12, false), -4);
        Answers.due("the only one of a row", x.add(20, 30, false), 0);
    }

    private static void sumsOfNothing() {
        ChainSums x = Samples.ordinary();
        for (int chain : WITHOUT_PIECES) {
            Answers.due("worst reaction of " + chain, x.worst(chain, false), -1);
            Answers.due("worst age of " + chain, x.worst(chain, true), -1);
            Answers.due("best reaction of " + chain, x.best(chain, false), -1);
            Answers.due("best age of " + chain, x.best(chain, true), -1);
        }
        x.add(2, 4, false);
        Answers.due("worst reaction of one piece", x.worst(2, false), 6);
        Answers.due("worst age of one piece", x.worst(2, true), 6);
        Answers.due("best reaction of one piece", x.best(2, false), 0);
        Answers.due("best age of one piece", x.best(2, true), 0);
    }

    private static void clockOfNoPiece() {
        ChainSums x = Samples.ordinary();
        int[] none = {0, -1, 5, 30, 31, Integer.MIN_VALUE, Integer.MAX_VALUE};
        for (int piece : none) {
            Answers.due("piece " + piece, x.clock(piece, 0, 1), -1);
        }
        Answers.due("the first piece", x.clock(1, 0, 1), 10);
        Answers.due("the last piece", x.clock(4, 0, 1), 6);
    }

    private static void clockWithoutPeriod() {
        ChainSums x = Samples.ordinary();
        Answers.due("right", x.clock(3, 0, 1), 0);
        Answers.due("as wrong as it can be", x.clock(3, 999999, 1000000), 0);
        Answers.due("its answer stays", x.worst(1, false), 26);
    }

    private static void clockDown() {
        ChainSums x = Samples.ordinary();
        Answers.due("0", x.clock(1, 0, 0), -2);
        Answers.due("-1", x.clock(1, 0, -1), -2);
        Answers.due("1", x.clock(1, 0, 1), 10);
        Answers.due("1000000", x.clock(1, 0, 1000000), 10);
        Answers.due("1000001", x.clock(1, 0, 1000001), -2);
        Answers.due("5, but for a wrap", x.clock(1, 0, WRAP + 5), -2);
        Answers.due("the least", x.clock(1, 0, Long.MIN_VALUE), -2);
        Answers.due("the most", x.clock(1, 0, Long.MAX_VALUE), -2);
    }

    private static void clockUp() {
        ChainSums x = Samples.ordinary();
        Answers.due("-1", x.clock(1, -1, 5), -2);
        Answers.due("0", x.clock(1, 0, 5), 10);
        Answers.due("down - 1", x.clock(1, 4, 5), 18);
        Answers.due("down", x.clock(1, 5, 5), -2);
        Answers.due("down + 1", x.clock(1, 6, 5), -2);
        Answers.due("down is 1", x.clock(1, 1, 1), -2);
        Answers.due("down - 1 of the most", x.clock(1, 999999, 1000000), 20);
        Answers.due("down of the most", x.clock(1, 1000000, 1000000), -2);
        Answers.due("1, but for a wrap", x.clock(1, WRAP + 1, 5), -2);
        Answers.due("the least", x.clock(1, Long.MIN_VALUE, 5), -2);
        Answers.due("the most", x.clock(1, Long.MAX_VALUE, 5), -2);
    }

    private static void wishOfNothing() {
        ChainSums x = Samples.ordinary();
        for (int chain : WITHOUT_PIECES) {
            Answers.due("chain " + chain, x.wish(chain, 100), -1);
        }
        x.add(2, 4, false);
        Answers.due("one piece", x.wish(2, 100), 1);
    }

    private static void wishMicros() {
        ChainSums x = Samples.ordinary();
        Answers.due("-1", x.wish(1, -1), -2);
        Answers.due("the least", x.wish(1, Long.MIN_VALUE), -2);
        Answers.due("100, but for a wrap below", x.wish(1, 100 - WRAP), -2);
        Answers.due("0", x.wish(1, 0), 0);
        Answers.due("0, but for a wrap", x.wish(1, WRAP), 1);
        Answers.due("-1, but for a wrap", x.wish(1, 2 * WRAP - 1), 1);
        Answers.due("the most", x.wish(1, Long.MAX_VALUE), 1);
        Answers.due("which is kept", x.share(1, -1), 1);
    }

    private static void wishJustKept() {
        ChainSums x = Samples.ordinary();
        Answers.due("just below", x.wish(1, 25), 0);
        Answers.due("just as much", x.wish(1, 26), 1);
        Answers.due("just above", x.wish(1, 27), 1);
        x.clock(1, 1, 100);
        Answers.due("just as much by a wrong clock", x.wish(1, 27), 1);
        Answers.due("just below by a wrong clock", x.wish(1, 26), 0);
    }

    private static void wishInstead() {
        ChainSums x = Samples.ordinary();
        x.wish(1, 26);
        x.wish(1, 26);
        Answers.due("the same told twice", x.share(1, -1), 1);
        x.wish(1, 0);
        Answers.due("0 instead of a kept one", x.share(1, -1), 0);
        x.wish(1, 26);
        Answers.due("a kept one instead of 0", x.share(1, -1), 1);
    }

    private static void shareDownwards() {
        ChainSums thirds = Samples.sampling(1, 0, 2, 0);
        Answers.due("a third", thirds.share(1, 0), 333);
        Answers.due("two thirds", thirds.share(1, 1), 666);
        ChainSums one = Samples.sampling(1, 0, 999, 0);
        Answers.due("just a thousandth", one.share(1, 0), 1);
        Answers.due("all but a thousandth", one.share(1, 1), 999);
        ChainSums less = Samples.sampling(1, 0, 1000, 0);
        Answers.due("just less than one", less.share(1, 0), 0);
        Answers.due("just more than 999", less.share(1, 1), 999);
        Answers.due("all", Samples.sampling(20000, 20000).share(1, 0), 1000);
        ChainSums nothing = Samples.sampling(20000, 0);
        nothing.add(1, nothing.piece(0, 20000, 0), true);
        Answers.due("nothing", nothing.share(1, 1), 0);
        Answers.due("all of it", nothing.share(1, 0), 1000);
    }

    private static void shareOfNothing() {
        ChainSums x = Samples.ordinary();
        for (int chain : WITHOUT_PIECES) {
            Answers.due("chain " + chain, x.share(chain, 0), -1);
        }
        int[] outside = {-2, 3, 11, 12, Integer.MIN_VALUE, Integer.MAX_VALUE};
        for (int i : outside) {
            Answers.due("piece " + i, x.share(1, i), -1);
        }
        Answers.due("the first piece", x.share(1, 0), 500);
        Answers.due("the last piece", x.share(1, 2), 230);
        ChainSums full = Samples.full();
        Answers.due("the last piece of a full row", full.share(1, 11), 153);
        Answers.due("behind a full row", full.share(1, 12), -1);
    }

    /** No chain's WORST REACTION is 0, as its first piece samples with a PERIOD of at least 1. */
    private static void shareOfTheLeast() {
        ChainSums x = new ChainSums();
        x.piece(0, 0, 0);
        x.piece(0, 1, 0);
        x.chain();
        Answers.due("nothing comes first", x.add(1, 1, true), -3);
        Answers.due("no worst reaction", x.share(1, 0), -1);
        x.add(1, 2, true);
        x.add(1, 1, true);
        Answers.due("the least worst reaction", x.worst(1, false), 1);
        Answers.due("all of it", x.share(1, 0), 1000);
        Answers.due("nothing of it", x.share(1, 1), 0);
    }

    private static void wishesOfAllChains() {
        ChainSums x = new ChainSums();
        x.piece(0, 10, 3);
        Answers.due("no chains", x.share(1, -1), 0);
        for (int n = 1; n <= 20; n++) {
            x.chain();
            x.add(n, 1, false);
            Answers.due("before chain " + n + " has one", x.share(n, -1), n - 1);
            x.wish(n, 13);
            Answers.due("chain " + n + " too", x.share(n, -1), n);
        }
        int[] others = {0, -1, 21, Integer.MIN_VALUE, Integer.MAX_VALUE};
        for (int chain : others) {
            Answers.due("asked of " + chain, x.share(chain, -1), 20);
        }
        x.clock(1, 1, 10);
        Answers.due("none now", x.share(1, -1), 0);
        x.clock(1, 0, 10);
        Answers.due("all now", x.share(1, -1), 20);
    }

    /** No multiple of periods is 999999998 .. 1000000001: each has a prime's power above 20000. */
    private static void cycleLimit() {
        Answers.due("the least", Samples.sampling(1, 0).cycle(1), 1);
        Answers.due("the last inside", Samples.sampling(71, 0, 2251, 0, 6257, 0).cycle(1), 999999997);
        Answers.due("the first outside", Samples.sampling(6, 0, 43, 0, 983, 0, 3943, 0).cycle(1), 1000000000);
        ChainSums x = Samples.sampling(71, 0, 2251, 0, 6257, 0);
        x.add(1, x.piece(0, 2, 0), true);
        Answers.due("outside by one set off", x.cycle(1), 1000000000);
        ChainSums y = Samples.sampling(71, 0, 2251, 0, 6257, 0);
        y.add(1, y.piece(0, 71, 0), true);
        Answers.due("inside with one set off", y.cycle(1), 999999997);
    }

    private static void cycleWraps() {
        ChainSums x = new ChainSums();
        x.chain();
        for (int n = 0; n < LARGE_PRIMES.length; n++) {
            x.add(1, x.piece(0, LARGE_PRIMES[n], 0), n % 2 == 0);
            long due = n == 0 ? 19997 : n == 1 ? 399800021 : 1000000000;
            Answers.due((n + 1) + " primes", x.cycle(1), due);
        }
        Answers.due("powers of primes",
                Samples.sampling(15625, 0, 19683, 0, 16807, 0, 2197, 0, 16129, 0).cycle(1), 1000000000);
        Answers.due("1 behind more", Samples.sampling(19997, 0, 19993, 0, 3, 0, 1, 0).cycle(1), 1000000000);
        Answers.due("one again behind more",
                Samples.sampling(19997, 0, 19993, 0, 3, 0, 19997, 0).cycle(1), 1000000000);
    }

    private static void cycleOfNothing() {
        ChainSums x = Samples.ordinary();
        for (int chain : WITHOUT_PIECES) {
            Answers.due("chain " + chain, x.cycle(chain), -1);
        }
        x.add(2, 4, false);
        Answers.due("one piece", x.cycle(2), 6);
    }

    private static void cycleWithoutPeriod() {
        ChainSums x = Samples.sampling(5, 0, 1, 0);
        int none = x.piece(0, 0, 0);
        Answers.due("before it is there", x.cycle(1), 5);
        x.add(1, none, true);
        Answers.dueArithmetic("it is the last", x, 1);
        x.add(1, x.piece(0, 7, 0), false);
        Answers.dueArithmetic("it is not the last", x, 1);
        ChainSums y = Samples.sampling(19997, 0, 19993, 0, 19991, 0);
        y.add(1, y.piece(0, 0, 0), true);
        Answers.dueArithmetic("behind more than the limit", y, 1);
        y.chain();
        y.add(2, 1, false);
        Answers.due("another chain", y.cycle(2), 19997);
    }

    private static void steppedOfNothing() {
        ChainSums x = Samples.ordinary();
        for (int chain : WITHOUT_PIECES) {
            Answers.due("chain " + chain, x.stepped(chain), -1);
        }
        x.add(2, 4, false);
        Answers.due("one piece", x.stepped(2), 5);
    }

    private static void plainOfNothing() {
        ChainSums x = Samples.ordinary();
        for (int chain : WITHOUT_PIECES) {
            Answers.due("chain " + chain, x.plain(chain), false);
        }
        x.add(2, 4, false);
        Answers.due("one piece", x.plain(2), true);
    }
}
