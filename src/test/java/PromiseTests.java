/** Each promise of the document by itself: ordinary inputs, the edges that it names, wrong inputs. */
public final class PromiseTests {
    private static final long LEAST = Long.MIN_VALUE;
    private static final long MOST = Long.MAX_VALUE;
    private static String promise = "";
    private static int wrong = 0;

    public static void main(String[] args) {
        newObject();
        piece();
        pieceRoom();
        chain();
        add();
        addRefusalOrder();
        addRoom();
        worst();
        worstAgeByPlace();
        best();
        clock();
        clockCountsEverywhere();
        wish();
        wishFollowsTheChain();
        share();
        shareCountsWishes();
        cycle();
        cycleOfManyPieces();
        cycleWithoutPeriod();
        stepped();
        steppedWithSetOff();
        steppedAtTheLimit();
        plain();
        refusalsChangeNothing();
        System.out.println(wrong == 0 ? "all promises hold" : wrong + " answers are not as due");
        if (wrong != 0) {
            System.exit(1);
        }
    }

    private static void due(String call, long got, long want) {
        if (got != want) {
            wrong++;
            System.out.println(promise + ": " + call + " answered " + got + ", due is " + want);
        }
    }

    private static void due(String call, boolean got, boolean want) {
        due(call, got ? 1 : 0, want ? 1 : 0);
    }

    private static void dueArithmetic(String call, ChainSums x, int chain) {
        boolean thrown = false;
        try {
            x.cycle(chain);
        } catch (ArithmeticException e) {
            thrown = true;
        }
        due(call + " throws ArithmeticException", thrown, true);
    }

    /** Pieces 1 (10, 3), 2 (4, 2), 3 (none, 7), 4 (6, 0); chain 1: 1, 3 set off, 2; chain 2 is empty. */
    private static ChainSums ordinary() {
        ChainSums x = new ChainSums();
        x.piece(0, 10, 3);
        x.piece(1, 4, 2);
        x.piece(2, 0, 7);
        x.piece(0, 6, 0);
        x.chain();
        x.chain();
        x.add(1, 1, false);
        x.add(1, 3, true);
        x.add(1, 2, false);
        return x;
    }

    /** One chain of sampling pieces: their periods and answers in turn. */
    private static ChainSums sampling(long... periodsAndAnswers) {
        ChainSums x = new ChainSums();
        x.chain();
        for (int i = 0; i + 1 < periodsAndAnswers.length; i += 2) {
            x.add(1, x.piece(0, periodsAndAnswers[i], periodsAndAnswers[i + 1]), false);
        }
        return x;
    }

    private static void newObject() {
        promise = "promise 1";
        ChainSums x = new ChainSums();
        due("add without anything", x.add(1, 1, false), -1);
        due("clock without pieces", x.clock(1, 0, 1), -1);
        due("worst without chains", x.worst(1, false), -1);
        due("kept wishes", x.share(1, -1), 0);
        ChainSums other = new ChainSums();
        due("first piece", x.piece(0, 1, 1), 1);
        due("first chain", x.chain(), 1);
        due("first piece of another object", other.piece(0, 1, 1), 1);
        due("first chain of another object", other.chain(), 1);
    }

    private static void piece() {
        promise = "promise 2";
        ChainSums x = new ChainSums();
        due("kind -1", x.piece(-1, 1, 1), -2);
        due("kind 3", x.piece(3, 1, 1), -2);
        due("least kind", x.piece(Integer.MIN_VALUE, 1, 1), -2);
        due("most kind", x.piece(Integer.MAX_VALUE, 1, 1), -2);
        due("period -1", x.piece(0, -1, 1), -2);
        due("period 20001", x.piece(0, 20001, 1), -2);
        due("least period", x.piece(0, LEAST, 1), -2);
        due("period 2^32", x.piece(0, 1L << 32, 1), -2);
        due("answer -1", x.piece(0, 1, -1), -2);
        due("answer 20001", x.piece(0, 1, 20001), -2);
        due("most answer", x.piece(0, 1, MOST), -2);
        due("answer 2^32", x.piece(0, 1, 1L << 32), -2);
        due("least of all", x.piece(0, 0, 0), 1);
        due("most of all", x.piece(2, 20000, 20000), 2);
        due("kind 1", x.piece(1, 1, 1), 3);
    }

    private static void pieceRoom() {
        promise = "promise 2";
        ChainSums x = new ChainSums();
        for (int n = 1; n <= 30; n++) {
            due("piece " + n, x.piece(n % 3, n, n), n);
        }
        due("piece 31", x.piece(0, 1, 1), -4);
        due("piece 31 outside a range", x.piece(0, 20001, 1), -2);
        due("piece 30 is there", x.clock(30, 0, 1), 30);
        due("piece 31 is not there", x.clock(31, 0, 1), -1);
    }

    private static void chain() {
        promise = "promise 3";
        ChainSums x = new ChainSums();
        x.piece(0, 1, 1);
        for (int n = 1; n <= 20; n++) {
            due("chain " + n, x.chain(), n);
            due("pieces of chain " + n, x.worst(n, false), -1);
        }
        due("chain 21", x.chain(), -4);
        due("chain 20 is there", x.add(20, 1, false), 1);
        due("chain 21 is not there", x.add(21, 1, false), -1);
    }

    private static void add() {
        promise = "promise 4";
        ChainSums x = new ChainSums();
        x.piece(0, 10, 3);
        x.piece(1, 4, 2);
        x.piece(2, 0, 7);
        x.chain();
        x.chain();
        due("to chain 0", x.add(0, 1, false), -1);
        due("to chain 3", x.add(3, 1, false), -1);
        due("to the least chain", x.add(Integer.MIN_VALUE, 1, false), -1);
        due("to the most chain", x.add(Integer.MAX_VALUE, 1, false), -1);
        due("piece 0", x.add(1, 0, true), -1);
        due("piece 4", x.add(1, 4, true), -1);
        due("least piece", x.add(1, Integer.MIN_VALUE, true), -1);
        due("most piece", x.add(1, Integer.MAX_VALUE, true), -1);
        due("without period as the first", x.add(1, 3, true), -3);
        due("the first, told set off", x.add(1, 1, true), 1);
        due("the first is sampling", x.worst(1, false), 13);
        due("again", x.add(1, 1, false), 0);
        due("again, set off", x.add(1, 1, true), 0);
        due("nothing changed", x.worst(1, false), 13);
        due("without period, sampling", x.add(1, 3, false), -3);
        due("without period, set off", x.add(1, 3, true), 1);
        due("the second is set off", x.worst(1, false), 20);
        due("the third is sampling", x.add(1, 2, false), 1);
        due("all three", x.worst(1, false), 26);
        due("in another chain too", x.add(2, 2, false), 1);
        due("with a period, set off", x.add(2, 1, true), 1);
        due("the other chain", x.worst(2, false), 9);
    }

    private static void addRefusalOrder() {
        promise = "promise 4";
        ChainSums x = ordinary();
        due("held, without period, sampling", x.add(1, 3, false), -3);
        due("held, without period, set off", x.add(1, 3, true), 0);
        due("no chain, without period", x.add(9, 3, false), -1);
    }

    private static void addRoom() {
        promise = "promise 4";
        ChainSums x = new ChainSums();
        x.chain();
        for (int n = 1; n <= 12; n++) {
            x.piece(0, n, 1);
            due("piece " + n, x.add(1, n, false), 1);
        }
        x.piece(0, 1, 1);
        x.piece(0, 0, 1);
        due("the 13th", x.add(1, 13, false), -4);
        due("one that is in it already", x.add(1, 5, false), -4);
        due("without period, sampling", x.add(1, 14, false), -3);
        due("without period, set off", x.add(1, 14, true), -4);
        due("no such piece", x.add(1, 15, true), -1);
        due("the last is there", x.share(1, 11), 13 * 1000 / 90);
        due("no 13th", x.share(1, 12), -1);
        due("worst reaction of a full chain", x.worst(1, false), 90);
        due("worst age of a full chain", x.worst(1, true), 90 - 1 + 12);
        due("best of a full chain", x.best(1, true), 11);
        due("cycle of a full chain", x.cycle(1), 27720);
        due("a full chain of a long cycle", x.plain(1), false);
        due("stepped of a full chain", x.stepped(1), 90);
    }

    private static void worst() {
        promise = "promise 5";
        ChainSums x = ordinary();
        due("reaction", x.worst(1, false), 26);
        due("age", x.worst(1, true), 20);
        due("no pieces", x.worst(2, false), -1);
        due("no pieces, age", x.worst(2, true), -1);
        due("chain 0", x.worst(0, false), -1);
        due("chain 3", x.worst(3, true), -1);
        due("least chain", x.worst(Integer.MIN_VALUE, true), -1);
        due("most chain", x.worst(Integer.MAX_VALUE, false), -1);
        ChainSums one = sampling(5, 2);
        due("one piece, reaction", one.worst(1, false), 7);
        due("one piece, age", one.worst(1, true), 7);
    }

    private static void worstAgeByPlace() {
        promise = "promise 5";
        ChainSums x = sampling(100, 1, 30, 2);
        int setOff = x.piece(0, 7, 4);
        due("set off behind", x.add(1, setOff, true), 1);
        due("reaction", x.worst(1, false), 137);
        due("age: the last sampling one, not the last", x.worst(1, true), 67);
        x.clock(1, 1, 2);
        x.clock(2, 1, 10);
        x.clock(setOff, 1, 2);
        due("reaction by wrong clocks", x.worst(1, false), 150 + 1 + 33 + 2 + 4);
        due("age by wrong clocks", x.worst(1, true), 1 + 33 + 2 + 4 + 33);
    }

    private static void best() {
        promise = "promise 6";
        ChainSums x = ordinary();
        due("reaction", x.best(1, false), 12);
        due("age", x.best(1, true), 9);
        due("no pieces", x.best(2, false), -1);
        due("no pieces, age", x.best(2, true), -1);
        due("chain 0", x.best(0, true), -1);
        due("chain 3", x.best(3, false), -1);
        due("least chain", x.best(Integer.MIN_VALUE, false), -1);
        due("most chain", x.best(Integer.MAX_VALUE, true), -1);
        x.clock(1, 1, 2);
        due("clocks do not matter", x.best(1, false), 12);
        due("one piece, age", sampling(5, 2).best(1, true), 0);
        due("no answers", sampling(5, 0, 7, 0).best(1, false), 0);
    }

    private static void clock() {
        promise = "promise 7";
        ChainSums x = ordinary();
        x.piece(0, 20000, 0);
        due("upwards", x.clock(1, 1, 100), 11);
        due("without a rest", x.clock(1, 1, 10), 11);
        due("just above", x.clock(1, 11, 100), 12);
        due("right again", x.clock(1, 0, 7), 10);
        due("no period", x.clock(3, 1, 10), 0);
        due("piece 0", x.clock(0, 0, 1), -1);
        due("piece 6", x.clock(6, 0, 1), -1);
        due("least piece", x.clock(Integer.MIN_VALUE, 0, 1), -1);
        due("most piece", x.clock(Integer.MAX_VALUE, 0, 0), -1);
        due("down 0", x.clock(1, 0, 0), -2);
        due("down -1", x.clock(1, -2, -1), -2);
        due("down 1000001", x.clock(1, 0, 1000001), -2);
        due("down 1000000", x.clock(1, 0, 1000000), 10);
        due("least down", x.clock(1, 0, LEAST), -2);
        due("most down", x.clock(1, 0, MOST), -2);
        due("up -1", x.clock(1, -1, 5), -2);
        due("up is down", x.clock(1, 5, 5), -2);
        due("up is down, both 1", x.clock(1, 1, 1), -2);
        due("up is down - 1", x.clock(1, 4, 5), 18);
        due("least up", x.clock(1, LEAST, 5), -2);
        due("most up", x.clock(1, MOST, 5), -2);
        due("the longest", x.clock(5, 999999, 1000000), 40000);
        due("the least wrong", x.clock(5, 1, 1000000), 20001);
    }

    private static void clockCountsEverywhere() {
        promise = "promise 7";
        ChainSums x = ordinary();
        x.add(2, 4, false);
        x.add(2, 1, false);
        x.clock(1, 1, 2);
        due("in the first chain", x.worst(1, false), 31);
        due("in the second chain", x.worst(2, false), 24);
        x.clock(1, 1, 5);
        due("instead of the one before", x.worst(1, false), 28);
        due("a refused one", x.clock(1, 7, 7), -2);
        due("changes nothing", x.worst(1, false), 28);
    }

    private static void wish() {
        promise = "promise 8";
        ChainSums x = ordinary();
        due("too short", x.wish(1, 25), 0);
        due("just kept", x.wish(1, 26), 1);
        due("zero", x.wish(1, 0), 0);
        due("the most", x.wish(1, MOST), 1);
        due("below 0", x.wish(1, -1), -2);
        due("the least", x.wish(1, LEAST), -2);
        due("no pieces", x.wish(2, 5), -1);
        due("no pieces, below 0", x.wish(2, -5), -1);
        due("chain 0", x.wish(0, 5), -1);
        due("chain 3", x.wish(3, 5), -1);
        due("least chain", x.wish(Integer.MIN_VALUE, 5), -1);
        due("most chain", x.wish(Integer.MAX_VALUE, -5), -1);
        due("the age does not matter", sampling(1, 0, 50, 0).wish(1, 51), 1);
    }

    private static void wishFollowsTheChain() {
        promise = "promises 8 and 9";
        ChainSums x = ordinary();
        x.wish(1, 26);
        due("kept", x.share(1, -1), 1);
        x.clock(1, 1, 100);
        due("broken by a clock", x.share(1, -1), 0);
        x.clock(1, 0, 1);
        due("kept by a right clock", x.share(1, -1), 1);
        x.add(1, 4, true);
        due("a piece without answer, set off", x.share(1, -1), 1);
        x.add(1, x.piece(0, 1, 1), true);
        due("broken by a piece", x.share(1, -1), 0);
        due("a longer wish", x.wish(1, 27), 1);
        due("counts once", x.share(1, -1), 1);
        due("a refused wish", x.wish(1, -1), -2);
        due("leaves the one before", x.share(1, -1), 1);
    }

    private static void share() {
        promise = "promise 9";
        ChainSums x = ordinary();
        due("piece 0", x.share(1, 0), 500);
        due("piece 1", x.share(1, 1), 269);
        due("piece 2", x.share(1, 2), 230);
        due("piece 3", x.share(1, 3), -1);
        due("piece -2", x.share(1, -2), -1);
        due("least piece", x.share(1, Integer.MIN_VALUE), -1);
        due("most piece", x.share(1, Integer.MAX_VALUE), -1);
        due("no pieces", x.share(2, 0), -1);
        due("chain 0", x.share(0, 0), -1);
        due("chain 3", x.share(3, 0), -1);
        due("least chain", x.share(Integer.MIN_VALUE, 0), -1);
        due("most chain", x.share(Integer.MAX_VALUE, 0), -1);
        x.clock(1, 1, 2);
        due("by a wrong clock", x.share(1, 0), 18 * 1000 / 31);
        due("one piece", sampling(1, 0).share(1, 0), 1000);
        x.add(1, 4, true);
        due("one that brings nothing", x.share(1, 3), 0);
    }

    private static void shareCountsWishes() {
        promise = "promise 9";
        ChainSums x = ordinary();
        x.add(2, 4, false);
        due("none told", x.share(1, -1), 0);
        x.wish(1, 26);
        due("of all chains, asked of a chain that is not there", x.share(99, -1), 1);
        due("asked of chain 0", x.share(0, -1), 1);
        x.wish(2, 6);
        due("both", x.share(2, -1), 2);
        x.wish(1, 25);
        due("only the second", x.share(1, -1), 1);
        x.wish(2, 0);
        due("none", x.share(1, -1), 0);
    }

    private static void cycle() {
        promise = "promise 10";
        ChainSums x = ordinary();
        x.add(2, 4, false);
        x.add(2, 2, true);
        due("one set off counts too", x.cycle(2), 12);
        x.clock(4, 1, 2);
        due("clocks do not matter", x.cycle(2), 12);
        due("chain 0", x.cycle(0), -1);
        due("chain 3", x.cycle(3), -1);
        due("least chain", x.cycle(Integer.MIN_VALUE), -1);
        due("most chain", x.cycle(Integer.MAX_VALUE), -1);
        x.chain();
        due("no pieces", x.cycle(3), -1);
        due("one piece", sampling(20000, 5).cycle(1), 20000);
        due("alike", sampling(7, 0, 7, 1).cycle(1), 7);
        due("one divides the other", sampling(3, 0, 12, 1).cycle(1), 12);
        due("the other way round", sampling(12, 0, 3, 1).cycle(1), 12);
    }

    private static void cycleOfManyPieces() {
        promise = "promise 10";
        due("below the limit", sampling(19997, 5, 19993, 5).cycle(1), 399800021);
        due("above the limit", sampling(19997, 5, 19993, 5, 20000, 0).cycle(1), 1000000000);
        due("powers of one prime", sampling(512, 0, 3125, 0, 625, 0, 15625, 0).cycle(1), 8000000);
        due("just below the limit", sampling(71, 0, 2251, 0, 6257, 0).cycle(1), 999999997);
        due("just above the limit", sampling(2, 0, 3, 0, 43, 0, 983, 0, 3943, 0).cycle(1), 1000000000);
        due("far above the limit", sampling(19997, 0, 19993, 0, 19991, 0, 19979, 0, 19973, 0, 19963, 0,
                19961, 0, 19949, 0, 19937, 0, 19927, 0, 19919, 0, 19913, 0).cycle(1), 1000000000);
        due("more than the limit at first", sampling(19997, 0, 19993, 0, 19991, 0, 1, 0).cycle(1), 1000000000);
    }

    private static void cycleWithoutPeriod() {
        promise = "promise 10";
        ChainSums x = ordinary();
        dueArithmetic("one without period", x, 1);
        ChainSums large = sampling(19997, 0, 19993, 0, 19991, 0);
        large.add(1, large.piece(0, 0, 0), true);
        dueArithmetic("one without period behind a long cycle", large, 1);
        due("the call changed nothing", large.worst(1, false), 19997 + 19993 + 19991);
    }

    private static void stepped() {
        promise = "promise 11";
        ChainSums x = ordinary();
        due("ordinary", x.stepped(1), 23);
        due("no pieces", x.stepped(2), -1);
        due("chain 0", x.stepped(0), -1);
        due("chain 3", x.stepped(3), -1);
        due("least chain", x.stepped(Integer.MIN_VALUE), -1);
        due("most chain", x.stepped(Integer.MAX_VALUE), -1);
        due("one piece", sampling(1, 0).stepped(1), 0);
        due("one long piece", sampling(20000, 20000).stepped(1), 39999);
        due("two periods", sampling(6, 0, 4, 2).stepped(1), 9);
        due("the worst is not the first begin", sampling(2, 0, 3, 0).stepped(1), 3);
        due("alike", sampling(5, 0, 5, 0).stepped(1), 4);
        due("alike, an answer between", sampling(5, 1, 5, 0).stepped(1), 9);
    }

    private static void steppedWithSetOff() {
        promise = "promise 11";
        ChainSums x = ordinary();
        x.clock(1, 1, 100);
        due("a wrong clock: worst reaction", x.stepped(1), 27);
        x.clock(1, 0, 100);
        due("right again", x.stepped(1), 23);
        x.clock(3, 1, 10);
        due("a wrong clock of one set off", x.stepped(1), 26);
        ChainSums y = sampling(10, 1);
        y.add(1, y.piece(0, 19997, 2), true);
        due("periods of those set off do not matter", y.stepped(1), 12);
        due("nor for plain", y.plain(1), true);
    }

    private static void steppedAtTheLimit() {
        promise = "promises 11 and 12";
        ChainSums just = sampling(32, 0, 625, 0);
        due("cycle 20000", just.cycle(1), 20000);
        due("cycle 20000 is stepped", just.plain(1), true);
        due("stepped", just.stepped(1), 655);
        ChainSums above = sampling(3, 0, 6667, 0);
        due("cycle 20001", above.cycle(1), 20001);
        due("cycle 20001 is not stepped", above.plain(1), false);
        due("worst reaction", above.stepped(1), 6670);
        ChainSums all = sampling(1, 0, 20000, 0);
        due("every moment", all.stepped(1), 19999);
    }

    private static void plain() {
        promise = "promise 12";
        ChainSums x = ordinary();
        due("ordinary", x.plain(1), true);
        due("no pieces", x.plain(2), false);
        due("chain 0", x.plain(0), false);
        due("chain 3", x.plain(3), false);
        due("least chain", x.plain(Integer.MIN_VALUE), false);
        due("most chain", x.plain(Integer.MAX_VALUE), false);
        x.clock(2, 1, 1000000);
        due("a clock a little wrong", x.plain(1), false);
        x.clock(2, 0, 1000000);
        due("right again", x.plain(1), true);
        x.clock(4, 1, 2);
        due("a wrong clock elsewhere", x.plain(1), true);
        x.clock(3, 1, 2);
        due("a wrong clock of one without period", x.plain(1), false);
        due("a long cycle", sampling(19997, 5, 19993, 5).plain(1), false);
        due("a cycle far too long", sampling(19997, 0, 19993, 0, 19991, 0, 19979, 0).plain(1), false);
    }

    private static void refusalsChangeNothing() {
        promise = "refusals";
        ChainSums x = ordinary();
        x.piece(3, 1, 1);
        x.piece(0, 20001, 1);
        due("the next piece", x.piece(0, 1, 1), 5);
        x.add(1, 9, false);
        x.add(2, 3, true);
        due("the empty chain", x.worst(2, false), -1);
        due("the other chain", x.worst(1, false), 26);
        due("the next chain", x.chain(), 3);
    }
}
