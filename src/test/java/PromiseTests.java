/** Each promise of the document by itself: ordinary inputs, the edges that it names, wrong inputs. */
public final class PromiseTests {
    private static final long LEAST = Long.MIN_VALUE;
    private static final long MOST = Long.MAX_VALUE;

    public static void main(String[] args) {
        Answers.test("promise 1", PromiseTests::newObject);
        Answers.test("promise 2", PromiseTests::piece);
        Answers.test("promise 2", PromiseTests::pieceRoom);
        Answers.test("promise 3", PromiseTests::chain);
        Answers.test("promise 4", PromiseTests::add);
        Answers.test("promise 4", PromiseTests::addRefusalOrder);
        Answers.test("promise 4", PromiseTests::addRoom);
        Answers.test("promise 5", PromiseTests::worst);
        Answers.test("promise 5", PromiseTests::worstAgeByPlace);
        Answers.test("promise 6", PromiseTests::best);
        Answers.test("promise 7", PromiseTests::clock);
        Answers.test("promise 7", PromiseTests::clockCountsEverywhere);
        Answers.test("promise 8", PromiseTests::wish);
        Answers.test("promises 8 and 9", PromiseTests::wishFollowsTheChain);
        Answers.test("promise 9", PromiseTests::share);
        Answers.test("promise 9", PromiseTests::shareCountsWishes);
        Answers.test("promise 10", PromiseTests::cycle);
        Answers.test("promise 10", PromiseTests::cycleOfManyPieces);
        Answers.test("promise 10", PromiseTests::cycleWithoutPeriod);
        Answers.test("promise 11", PromiseTests::stepped);
        Answers.test("promise 11", PromiseTests::steppedWithSetOff);
        Answers.test("promises 11 and 12", PromiseTests::steppedAtTheLimit);
        Answers.test("promise 12", PromiseTests::plain);
        Answers.test("refusals", PromiseTests::refusalsChangeNothing);
        Answers.end();
    }

    private static void newObject() {
        ChainSums x = new ChainSums();
        Answers.due("add without anything", x.add(1, 1, false), -1);
        Answers.due("clock without pieces", x.clock(1, 0, 1), -1);
        Answers.due("worst without chains", x.worst(1, false), -1);
        Answers.due("kept wishes", x.share(1, -1), 0);
        ChainSums other = new ChainSums();
        Answers.due("first piece", x.piece(0, 1, 1), 1);
        Answers.due("first chain", x.chain(), 1);
        Answers.due("first piece of another object", other.piece(0, 1, 1), 1);
        Answers.due("first chain of another object", other.chain(), 1);
    }

    private static void piece() {
        ChainSums x = new ChainSums();
        Answers.due("kind -1", x.piece(-1, 1, 1), -2);
        Answers.due("kind 3", x.piece(3, 1, 1), -2);
        Answers.due("least kind", x.piece(Integer.MIN_VALUE, 1, 1), -2);
        Answers.due("most kind", x.piece(Integer.MAX_VALUE, 1, 1), -2);
        Answers.due("period -1", x.piece(0, -1, 1), -2);
        Answers.due("period 20001", x.piece(0, 20001, 1), -2);
        Answers.due("least period", x.piece(0, LEAST, 1), -2);
        Answers.due("period 2^32", x.piece(0, 1L << 32, 1), -2);
        Answers.due("answer -1", x.piece(0, 1, -1), -2);
        Answers.due("answer 20001", x.piece(0, 1, 20001), -2);
        Answers.due("most answer", x.piece(0, 1, MOST), -2);
        Answers.due("answer 2^32", x.piece(0, 1, 1L << 32), -2);
        Answers.due("least of all", x.piece(0, 0, 0), 1);
        Answers.due("most of all", x.piece(2, 20000, 20000), 2);
        Answers.due("kind 1", x.piece(1, 1, 1), 3);
    }

    private static void pieceRoom() {
        ChainSums x = new ChainSums();
        for (int n = 1; n <= 30; n++) {
            Answers.due("piece " + n, x.piece(n % 3, n, n), n);
        }
        Answers.due("piece 31", x.piece(0, 1, 1), -4);
        Answers.due("piece 31 outside a range", x.piece(0, 20001, 1), -2);
        Answers.due("piece 30 is there", x.clock(30, 0, 1), 30);
        Answers.due("piece 31 is not there", x.clock(31, 0, 1), -1);
    }

    private static void chain() {
        ChainSums x = new ChainSums();
        x.piece(0, 1, 1);
        for (int n = 1; n <= 20; n++) {
            Answers.due("chain " + n, x.chain(), n);
            Answers.due("pieces of chain " + n, x.worst(n, false), -1);
        }
        Answers.due("chain 21", x.chain(), -4);
        Answers.due("chain 20 is there", x.add(20, 1, false), 1);
        Answers.due("chain 21 is not there", x.add(21, 1, false), -1);
    }

    private static void add() {
        ChainSums x = new ChainSums();
        x.piece(0, 10, 3);
        x.piece(1, 4, 2);
        x.piece(2, 0, 7);
        x.chain();
        x.chain();
        Answers.due("to chain 0", x.add(0, 1, false), -1);
        Answers.due("to chain 3", x.add(3, 1, false), -1);
        Answers.due("to the least chain", x.add(Integer.MIN_VALUE, 1, false), -1);
        Answers.due("to the most chain", x.add(Integer.MAX_VALUE, 1, false), -1);
        Answers.due("piece 0", x.add(1, 0, true), -1);
        Answers.due("piece 4", x.add(1, 4, true), -1);
        Answers.due("least piece", x.add(1, Integer.MIN_VALUE, true), -1);
        Answers.due("most piece", x.add(1, Integer.MAX_VALUE, true), -1);
        Answers.due("without period as the first", x.add(1, 3, true), -3);
        Answers.due("the first, told set off", x.add(1, 1, true), 1);
        Answers.due("the first is sampling", x.worst(1, false), 13);
        Answers.due("again", x.add(1, 1, false), 0);
        Answers.due("again, set off", x.add(1, 1, true), 0);
        Answers.due("nothing changed", x.worst(1, false), 13);
        Answers.due("without period, sampling", x.add(1, 3, false), -3);
        Answers.due("without period, set off", x.add(1, 3, true), 1);
        Answers.due("the second is set off", x.worst(1, false), 20);
        Answers.due("the third is sampling", x.add(1, 2, false), 1);
        Answers.due("all three", x.worst(1, false), 26);
        Answers.due("in another chain too", x.add(2, 2, false), 1);
        Answers.due("with a period, set off", x.add(2, 1, true), 1);
        Answers.due("the other chain", x.worst(2, false), 9);
    }

    private static void addRefusalOrder() {
        ChainSums x = Samples.ordinary();
        Answers.due("held, without period, sampling", x.add(1, 3, false), -3);
        Answers.due("held, without period, set off", x.add(1, 3, true), 0);
        Answers.due("no chain, without period", x.add(9, 3, false), -1);
    }

    private static void addRoom() {
        ChainSums x = new ChainSums();
        x.chain();
        for (int n = 1; n <= 12; n++) {
            x.piece(0, n, 1);
            Answers.due("piece " + n, x.add(1, n, false), 1);
        }
        x.piece(0, 1, 1);
        x.piece(0, 0, 1);
        Answers.due("the 13th", x.add(1, 13, false), -4);
        Answers.due("one that is in it already", x.add(1, 5, false), -4);
        Answers.due("without period, sampling", x.add(1, 14, false), -3);
        Answers.due("without period, set off", x.add(1, 14, true), -4);
        Answers.due("no such piece", x.add(1, 15, true), -1);
        Answers.due("the last is there", x.share(1, 11), 13 * 1000 / 90);
        Answers.due("no 13th", x.share(1, 12), -1);
        Answers.due("worst reaction of a full chain", x.worst(1, false), 90);
        Answers.due("worst age of a full chain", x.worst(1, true), 90 - 1 + 12);
        Answers.due("best of a full chain", x.best(1, true), 11);
        Answers.due("cycle of a full chain", x.cycle(1), 27720);
        Answers.due("a full chain of a long cycle", x.plain(1), false);
        Answers.due("stepped of a full chain", x.stepped(1), 90);
    }

    private static void worst() {
        ChainSums x = Samples.ordinary();
        Answers.due("reaction", x.worst(1, false), 26);
        Answers.due("age", x.worst(1, true), 20);
        Answers.due("no pieces", x.worst(2, false), -1);
        Answers.due("no pieces, age", x.worst(2, true), -1);
        Answers.due("chain 0", x.worst(0, false), -1);
        Answers.due("chain 3", x.worst(3, true), -1);
        Answers.due("least chain", x.worst(Integer.MIN_VALUE, true), -1);
        Answers.due("most chain", x.worst(Integer.MAX_VALUE, false), -1);
        ChainSums one = Samples.sampling(5, 2);
        Answers.due("one piece, reaction", one.worst(1, false), 7);
        Answers.due("one piece, age", one.worst(1, true), 7);
    }

    private static void worstAgeByPlace() {
        ChainSums x = Samples.sampling(100, 1, 30, 2);
        int setOff = x.piece(0, 7, 4);
        Answers.due("set off behind", x.add(1, setOff, true), 1);
        Answers.due("reaction", x.worst(1, false), 137);
        Answers.due("age: the last sampling one, not the last", x.worst(1, true), 67);
        x.clock(1, 1, 2);
        x.clock(2, 1, 10);
        x.clock(setOff, 1, 2);
        Answers.due("reaction by wrong clocks", x.worst(1, false), 150 + 1 + 33 + 2 + 4);
        Answers.due("age by wrong clocks", x.worst(1, true), 1 + 33 + 2 + 4 + 33);
    }

    private static void best() {
        ChainSums x = Samples.ordinary();
        Answers.due("reaction", x.best(1, false), 12);
        Answers.due("age", x.best(1, true), 9);
        Answers.due("no pieces", x.best(2, false), -1);
        Answers.due("no pieces, age", x.best(2, true), -1);
        Answers.due("chain 0", x.best(0, true), -1);
        Answers.due("chain 3", x.best(3, false), -1);
        Answers.due("least chain", x.best(Integer.MIN_VALUE, false), -1);
        Answers.due("most chain", x.best(Integer.MAX_VALUE, true), -1);
        x.clock(1, 1, 2);
        Answers.due("clocks do not matter", x.best(1, false), 12);
        Answers.due("one piece, age", Samples.sampling(5, 2).best(1, true), 0);
        Answers.due("no answers", Samples.sampling(5, 0, 7, 0).best(1, false), 0);
    }

    private static void clock() {
        ChainSums x = Samples.ordinary();
        x.piece(0, 20000, 0);
        Answers.due("upwards", x.clock(1, 1, 100), 11);
        Answers.due("without a rest", x.clock(1, 1, 10), 11);
        Answers.due("just above", x.clock(1, 11, 100), 12);
        Answers.due("right again", x.clock(1, 0, 7), 10);
        Answers.due("no period", x.clock(3, 1, 10), 0);
        Answers.due("piece 0", x.clock(0, 0, 1), -1);
        Answers.due("piece 6", x.clock(6, 0, 1), -1);
        Answers.due("least piece", x.clock(Integer.MIN_VALUE, 0, 1), -1);
        Answers.due("most piece", x.clock(Integer.MAX_VALUE, 0, 0), -1);
        Answers.due("down 0", x.clock(1, 0, 0), -2);
        Answers.due("down -1", x.clock(1, -2, -1), -2);
        Answers.due("down 1000001", x.clock(1, 0, 1000001), -2);
        Answers.due("down 1000000", x.clock(1, 0, 1000000), 10);
        Answers.due("least down", x.clock(1, 0, LEAST), -2);
        Answers.due("most down", x.clock(1, 0, MOST), -2);
        Answers.due("up -1", x.clock(1, -1, 5), -2);
        Answers.due("up is down", x.clock(1, 5, 5), -2);
        Answers.due("up is down, both 1", x.clock(1, 1, 1), -2);
        Answers.due("up is down - 1", x.clock(1, 4, 5), 18);
        Answers.due("least up", x.clock(1, LEAST, 5), -2);
        Answers.due("most up", x.clock(1, MOST, 5), -2);
        Answers.due("the longest", x.clock(5, 999999, 1000000), 40000);
        Answers.due("the least wrong", x.clock(5, 1, 1000000), 20001);
    }

    private static void clockCountsEverywhere() {
        ChainSums x = Samples.ordinary();
        x.add(2, 4, false);
        x.add(2, 1, false);
        x.clock(1, 1, 2);
        Answers.due("in the first chain", x.worst(1, false), 31);
        Answers.due("in the second chain", x.worst(2, false), 24);
        x.clock(1, 1, 5);
        Answers.due("instead of the one before", x.worst(1, false), 28);
        Answers.due("a refused one", x.clock(1, 7, 7), -2);
        Answers.due("changes nothing", x.worst(1, false), 28);
    }

    private static void wish() {
        ChainSums x = Samples.ordinary();
        Answers.due("too short", x.wish(1, 25), 0);
        Answers.due("just kept", x.wish(1, 26), 1);
        Answers.due("zero", x.wish(1, 0), 0);
        Answers.due("the most", x.wish(1, MOST), 1);
        Answers.due("below 0", x.wish(1, -1), -2);
        Answers.due("the least", x.wish(1, LEAST), -2);
        Answers.due("no pieces", x.wish(2, 5), -1);
        Answers.due("no pieces, below 0", x.wish(2, -5), -1);
        Answers.due("chain 0", x.wish(0, 5), -1);
        Answers.due("chain 3", x.wish(3, 5), -1);
        Answers.due("least chain", x.wish(Integer.MIN_VALUE, 5), -1);
        Answers.due("most chain", x.wish(Integer.MAX_VALUE, -5), -1);
        Answers.due("the age does not matter", Samples.sampling(1, 0, 50, 0).wish(1, 51), 1);
    }

    private static void wishFollowsTheChain() {
        ChainSums x = Samples.ordinary();
        x.wish(1, 26);
        Answers.due("kept", x.share(1, -1), 1);
        x.clock(1, 1, 100);
        Answers.due("broken by a clock", x.share(1, -1), 0);
        x.clock(1, 0, 1);
        Answers.due("kept by a right clock", x.share(1, -1), 1);
        x.add(1, 4, true);
        Answers.due("a piece without answer, set off", x.share(1, -1), 1);
        x.add(1, x.piece(0, 1, 1), true);
        Answers.due("broken by a piece", x.share(1, -1), 0);
        Answers.due("a longer wish", x.wish(1, 27), 1);
        Answers.due("counts once", x.share(1, -1), 1);
        Answers.due("a refused wish", x.wish(1, -1), -2);
        Answers.due("leaves the one before", x.share(1, -1), 1);
    }

    private static void share() {
        ChainSums x = Samples.ordinary();
        Answers.due("piece 0", x.share(1, 0), 500);
        Answers.due("piece 1", x.share(1, 1), 269);
        Answers.due("piece 2", x.share(1, 2), 230);
        Answers.due("piece 3", x.share(1, 3), -1);
        Answers.due("piece -2", x.share(1, -2), -1);
        Answers.due("least piece", x.share(1, Integer.MIN_VALUE), -1);
        Answers.due("most piece", x.share(1, Integer.MAX_VALUE), -1);
        Answers.due("no pieces", x.share(2, 0), -1);
        Answers.due("chain 0", x.share(0, 0), -1);
        Answers.due("chain 3", x.share(3, 0), -1);
        Answers.due("least chain", x.share(Integer.MIN_VALUE, 0), -1);
        Answers.due("most chain", x.share(Integer.MAX_VALUE, 0), -1);
        x.clock(1, 1, 2);
        Answers.due("by a wrong clock", x.share(1, 0), 18 * 1000 / 31);
        Answers.due("one piece", Samples.sampling(1, 0).share(1, 0), 1000);
        x.add(1, 4, true);
        Answers.due("one that brings nothing", x.share(1, 3), 0);
    }

    private static void shareCountsWishes() {
        ChainSums x = Samples.ordinary();
        x.add(2, 4, false);
        Answers.due("none told", x.share(1, -1), 0);
        x.wish(1, 26);
        Answers.due("of all chains, asked of a chain that is not there", x.share(99, -1), 1);
        Answers.due("asked of chain 0", x.share(0, -1), 1);
        x.wish(2, 6);
        Answers.due("both", x.share(2, -1), 2);
        x.wish(1, 25);
        Answers.due("only the second", x.share(1, -1), 1);
        x.wish(2, 0);
        Answers.due("none", x.share(1, -1), 0);
    }

    private static void cycle() {
        ChainSums x = Samples.ordinary();
        x.add(2, 4, false);
        x.add(2, 2, true);
        Answers.due("one set off counts too", x.cycle(2), 12);
        x.clock(4, 1, 2);
        Answers.due("clocks do not matter", x.cycle(2), 12);
        Answers.due("chain 0", x.cycle(0), -1);
        Answers.due("chain 3", x.cycle(3), -1);
        Answers.due("least chain", x.cycle(Integer.MIN_VALUE), -1);
        Answers.due("most chain", x.cycle(Integer.MAX_VALUE), -1);
        x.chain();
        Answers.due("no pieces", x.cycle(3), -1);
        Answers.due("one piece", Samples.sampling(20000, 5).cycle(1), 20000);
        Answers.due("alike", Samples.sampling(7, 0, 7, 1).cycle(1), 7);
        Answers.due("one divides the other", Samples.sampling(3, 0, 12, 1).cycle(1), 12);
        Answers.due("the other way round", Samples.sampling(12, 0, 3, 1).cycle(1), 12);
    }

    private static void cycleOfManyPieces() {
        Answers.due("below the limit", Samples.sampling(19997, 5, 19993, 5).cycle(1), 399800021);
        Answers.due("above the limit", Samples.sampling(19997, 5, 19993, 5, 20000, 0).cycle(1), 1000000000);
        Answers.due("powers of one prime", Samples.sampling(512, 0, 3125, 0, 625, 0, 15625, 0).cycle(1), 8000000);
        Answers.due("just below the limit", Samples.sampling(71, 0, 2251, 0, 6257, 0).cycle(1), 999999997);
        Answers.due("just above the limit", Samples.sampling(2, 0, 3, 0, 43, 0, 983, 0, 3943, 0).cycle(1), 1000000000);
        Answers.due("far above the limit", Samples.sampling(19997, 0, 19993, 0, 19991, 0, 19979, 0, 19973, 0, 19963, 0,
                19961, 0, 19949, 0, 19937, 0, 19927, 0, 19919, 0, 19913, 0).cycle(1), 1000000000);
        Answers.due("more than the limit at first",
                Samples.sampling(19997, 0, 19993, 0, 19991, 0, 1, 0).cycle(1), 1000000000);
    }

    private static void cycleWithoutPeriod() {
        ChainSums x = Samples.ordinary();
        Answers.dueArithmetic("one without period", x, 1);
        ChainSums large = Samples.sampling(19997, 0, 19993, 0, 19991, 0);
        large.add(1, large.piece(0, 0, 0), true);
        Answers.dueArithmetic("one without period behind a long cycle", large, 1);
        Answers.due("the call changed nothing", large.worst(1, false), 19997 + 19993 + 19991);
    }

    private static void stepped() {
        ChainSums x = Samples.ordinary();
        Answers.due("ordinary", x.stepped(1), 23);
        Answers.due("no pieces", x.stepped(2), -1);
        Answers.due("chain 0", x.stepped(0), -1);
        Answers.due("chain 3", x.stepped(3), -1);
        Answers.due("least chain", x.stepped(Integer.MIN_VALUE), -1);
        Answers.due("most chain", x.stepped(Integer.MAX_VALUE), -1);
        Answers.due("one piece", Samples.sampling(1, 0).stepped(1), 0);
        Answers.due("one long piece", Samples.sampling(20000, 20000).stepped(1), 39999);
        Answers.due("two periods", Samples.sampling(6, 0, 4, 2).stepped(1), 9);
        Answers.due("the worst is not the first begin", Samples.sampling(2, 0, 3, 0).stepped(1), 3);
        Answers.due("alike", Samples.sampling(5, 0, 5, 0).stepped(1), 4);
        Answers.due("alike, an answer between", Samples.sampling(5, 1, 5, 0).stepped(1), 9);
    }

    private static void steppedWithSetOff() {
        ChainSums x = Samples.ordinary();
        x.clock(1, 1, 100);
        Answers.due("a wrong clock: worst reaction", x.stepped(1), 27);
        x.clock(1, 0, 100);
        Answers.due("right again", x.stepped(1), 23);
        x.clock(3, 1, 10);
        Answers.due("a wrong clock of one set off", x.stepped(1), 26);
        ChainSums y = Samples.sampling(10, 1);
        y.add(1, y.piece(0, 19997, 2), true);
        Answers.due("periods of those set off do not matter", y.stepped(1), 12);
        Answers.due("nor for plain", y.plain(1), true);
    }

    private static void steppedAtTheLimit() {
        ChainSums just = Samples.sampling(32, 0, 625, 0);
        Answers.due("cycle 20000", just.cycle(1), 20000);
        Answers.due("cycle 20000 is stepped", just.plain(1), true);
        Answers.due("stepped", just.stepped(1), 655);
        ChainSums above = Samples.sampling(3, 0, 6667, 0);
        Answers.due("cycle 20001", above.cycle(1), 20001);
        Answers.due("cycle 20001 is not stepped", above.plain(1), false);
        Answers.due("worst reaction", above.stepped(1), 6670);
        ChainSums all = Samples.sampling(1, 0, 20000, 0);
        Answers.due("every moment", all.stepped(1), 19999);
    }

    private static void plain() {
        ChainSums x = Samples.ordinary();
        Answers.due("ordinary", x.plain(1), true);
        Answers.due("no pieces", x.plain(2), false);
        Answers.due("chain 0", x.plain(0), false);
        Answers.due("chain 3", x.plain(3), false);
        Answers.due("least chain", x.plain(Integer.MIN_VALUE), false);
        Answers.due("most chain", x.plain(Integer.MAX_VALUE), false);
        x.clock(2, 1, 1000000);
        Answers.due("a clock a little wrong", x.plain(1), false);
        x.clock(2, 0, 1000000);
        Answers.due("right again", x.plain(1), true);
        x.clock(4, 1, 2);
        Answers.due("a wrong clock elsewhere", x.plain(1), true);
        x.clock(3, 1, 2);
        Answers.due("a wrong clock of one without period", x.plain(1), false);
        Answers.due("a long cycle", Samples.sampling(19997, 5, 19993, 5).plain(1), false);
        Answers.due("a cycle far too long", Samples.sampling(19997, 0, 19993, 0, 19991, 0, 19979, 0).plain(1), false);
    }

    private static void refusalsChangeNothing() {
        ChainSums x = Samples.ordinary();
        x.piece(3, 1, 1);
        x.piece(0, 20001, 1);
        Answers.due("the next piece", x.piece(0, 1, 1), 5);
        x.add(1, 9, false);
        x.add(2, 3, true);
        Answers.due("the empty chain", x.worst(2, false), -1);
        Answers.due("the other chain", x.worst(1, false), 26);
        Answers.due("the next chain", x.chain(), 3);
    }
}
