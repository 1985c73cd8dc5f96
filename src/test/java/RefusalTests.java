import java.util.ArrayList;
import java.util.List;
import java.util.function.Supplier;
import java.util.function.ToLongFunction;

/**
 * Refused calls: each answers as the document says, the first refusal that fits wins, and nothing
 * changes. The last is seen by a twin that was never called so: all later answers are the same.
 */
public final class RefusalTests {
    public static void main(String[] args) {
        Answers.test("promise 2: -2 changes nothing", RefusalTests::pieceOutside);
        Answers.test("promise 2: -4 changes nothing", RefusalTests::pieceWithoutRoom);
        Answers.test("promise 3: -4 changes nothing", RefusalTests::chainWithoutRoom);
        Answers.test("promise 4: -1 changes nothing", RefusalTests::addUnknown);
        Answers.test("promise 4: -3 changes nothing", RefusalTests::addInThisState);
        Answers.test("promise 4: -4 changes nothing", RefusalTests::addWithoutRoom);
        Answers.test("promise 4: 0 changes nothing", RefusalTests::addAgain);
        Answers.test("promises 5 and 6: -1 changes nothing", RefusalTests::sumsUnknown);
        Answers.test("promise 7: -1 changes nothing", RefusalTests::clockUnknown);
        Answers.test("promise 7: -2 changes nothing", RefusalTests::clockOutside);
        Answers.test("promise 8: -1 changes nothing", RefusalTests::wishUnknown);
        Answers.test("promise 8: -2 changes nothing", RefusalTests::wishOutside);
        Answers.test("promise 9: -1 changes nothing", RefusalTests::shareUnknown);
        Answers.test("promise 10: -1 changes nothing", RefusalTests::cycleUnknown);
        Answers.test("promise 10: the exception changes nothing", RefusalTests::cycleThrows);
        Answers.test("promises 11 and 12: -1 and false change nothing", RefusalTests::steppedUnknown);
        Answers.test("promise 2: -2 before -4", RefusalTests::pieceOrder);
        Answers.test("promise 4: -1 before -3 before -4 before 0", RefusalTests::addOrder);
        Answers.test("promise 7: -1 before -2", RefusalTests::clockOrder);
        Answers.test("promise 8: -1 before -2", RefusalTests::wishOrder);
        Answers.test("promise 10: -1 before the exception", RefusalTests::cycleOrder);
        Answers.test("many refusals use up no room", RefusalTests::manyRefusals);
        Answers.end();
    }

    /** The answer is as due, and the object goes on like a twin that never heard of the call. */
    private static void refused(String name, Supplier<ChainSums> maker, ToLongFunction<ChainSums> call, long due) {
        ChainSums called = maker.get();
        ChainSums twin = maker.get();
        Answers.due(name, call.applyAsLong(called), due);
        List<Long> got = laterAnswers(called);
        List<Long> want = laterAnswers(twin);
        for (int n = 0; n < want.size(); n++) {
            Answers.due("after " + name + ", later call " + (n + 1), got.get(n), want.get(n));
        }
    }

    /** Some 200 calls that make visible what an object holds: pieces, clocks, rows, wishes, room. */
    private static List<Long> laterAnswers(ChainSums x) {
        List<Long> answers = new ArrayList<>();
        lookAtChains(x, answers);
        // A wish shows where it is kept and where no more, as the sums grow by a clock.
        for (int up = 0; up < 10; up++) {
            answers.add((long) x.clock(1, up, 10));
            answers.add((long) x.share(0, -1));
        }
        for (int chain = 1; chain <= 3; chain++) {
            for (int piece = 1; piece <= 6; piece++) {
                answers.add((long) x.add(chain, piece, piece % 2 == 0));
            }
        }
        answers.add((long) x.chain());
        answers.add((long) x.piece(0, 9, 9));
        answers.add((long) x.add(3, 5, false));
        lookAtChains(x, answers);
        return answers;
    }

    private static void lookAtChains(ChainSums x, List<Long> answers) {
        int[] chains = {1, 2, 3, 20};
        answers.add((long) x.share(0, -1));
        for (int chain : chains) {
            answers.add(x.worst(chain, false));
            answers.add(x.worst(chain, true));
            answers.add(x.best(chain, false));
            answers.add(x.best(chain, true));
            answers.add(cycleOf(x, chain));
            answers.add(x.stepped(chain));
            answers.add(x.plain(chain) ? 1L : 0L);
            for (int i = 0; i <= 12; i++) {
                answers.add((long) x.share(chain, i));
            }
        }
    }

    /** -99, which no cycle is, stands for the exception. */
    private static long cycleOf(ChainSums x, int chain) {
        try {
            return x.cycle(chain);
        } catch (ArithmeticException e) {
            return -99;
        }
    }

    /** Chain 1 has a wrong clock, and a wish that it keeps only until the clock is more wrong. */
    private static ChainSums wishing() {
        ChainSums x = Samples.ordinary();
        x.clock(1, 1, 10);
        x.wish(1, 29);
        return x;
    }

    private static ChainSums fullAndWishing() {
        ChainSums x = Samples.full();
        x.wish(1, 156);
        x.wish(20, 60);
        return x;
    }

    private static void pieceOutside() {
        refused("kind -1", RefusalTests::wishing, x -> x.piece(-1, 5, 5), -2);
        refused("kind 3", RefusalTests::wishing, x -> x.piece(3, 5, 5), -2);
        refused("period -1", RefusalTests::wishing, x -> x.piece(0, -1, 5), -2);
        refused("period 20001", RefusalTests::wishing, x -> x.piece(0, 20001, 5), -2);
        refused("answer -1", RefusalTests::wishing, x -> x.piece(0, 5, -1), -2);
        refused("answer 20001", RefusalTests::wishing, x -> x.piece(0, 5, 20001), -2);
        refused("the first piece, kind 3", ChainSums::new, x -> x.piece(3, 5, 5), -2);
    }

    private static void pieceWithoutRoom() {
        refused("piece 31", RefusalTests::fullAndWishing, x -> x.piece(0, 5, 5), -4);
        refused("piece 31 without period", RefusalTests::fullAndWishing, x -> x.piece(2, 0, 0), -4);
    }

    private static void chainWithoutRoom() {
        refused("chain 21", RefusalTests::fullAndWishing, ChainSums::chain, -4);
    }

    private static void addUnknown() {
        refused("chain 0", RefusalTests::wishing, x -> x.add(0, 4, false), -1);
        refused("chain 3", RefusalTests::wishing, x -> x.add(3, 4, false), -1);
        refused("piece 0", RefusalTests::wishing, x -> x.add(1, 0, true), -1);
        refused("piece 5", RefusalTests::wishing, x -> x.add(1, 5, true), -1);
        refused("piece 5 as the first", RefusalTests::wishing, x -> x.add(2, 5, true), -1);
        refused("nothing is there", ChainSums::new, x -> x.add(1, 1, false), -1);
    }

    private static void addInThisState() {
        refused("the first without period, sampling", RefusalTests::wishing, x -> x.add(2, 3, false), -3);
        refused("the first without period, set off", RefusalTests::wishing, x -> x.add(2, 3, true), -3);
        refused("one without period that is in it", RefusalTests::wishing, x -> x.add(1, 3, false), -3);
        refused("one without period", RefusalTests::fullAndWishing, x -> x.add(20, 29, false), -3);
    }

    private static void addWithoutRoom() {
        refused("the 13th, sampling", RefusalTests::fullAndWishing, x -> x.add(1, 13, false), -4);
        refused("the 13th, set off", RefusalTests::fullAndWishing, x -> x.add(1, 13, true), -4);
        refused("the 13th, without period", RefusalTests::fullAndWishing, x -> x.add(1, 29, true), -4);
    }

    private static void addAgain() {
        refused("the first again", RefusalTests::wishing, x -> x.add(1, 1, false), 0);
        refused("the last again", RefusalTests::wishing, x -> x.add(1, 2, false), 0);
        refused("the last again, set off", RefusalTests::wishing, x -> x.add(1, 2, true), 0);
        refused("one without period again", RefusalTests::wishing, x -> x.add(1, 3, true), 0);
    }

    private static void sumsUnknown() {
        int[] unknown = {0, 2, 3};
        for (int chain : unknown) {
            refused("worst " + chain, RefusalTests::wishing, x -> x.worst(chain, false), -1);
            refused("worst age " + chain, RefusalTests::wishing, x -> x.worst(chain, true), -1);
            refused("best " + chain, RefusalTests::wishing, x -> x.best(chain, false), -1);
            refused("best age " + chain, RefusalTests::wishing, x -> x.best(chain, true), -1);
        }
    }

    private static void clockUnknown() {
        refused("piece 0", RefusalTests::wishing, x -> x.clock(0, 1, 2), -1);
        refused("piece 5", RefusalTests::wishing, x -> x.clock(5, 1, 2), -1);
        refused("no pieces", ChainSums::new, x -> x.clock(1, 1, 2), -1);
    }

    /** Each would be seen in chain 1's sums if it were kept; a piece without PERIOD in plain alone. */
    private static void clockOutside() {
        refused("down 0", RefusalTests::wishing, x -> x.clock(1, 0, 0), -2);
        refused("down -1", RefusalTests::wishing, x -> x.clock(1, 0, -1), -2);
        refused("down 1000001", RefusalTests::wishing, x -> x.clock(1, 0, 1000001), -2);
        refused("up -1", RefusalTests::wishing, x -> x.clock(1, -1, 2), -2);
        refused("up is down", RefusalTests::wishing, x -> x.clock(1, 5, 5), -2);
        refused("up is down, of one without period", Samples::ordinary, x -> x.clock(3, 5, 5), -2);
        refused("up is down, of a right one", Samples::ordinary, x -> x.clock(2, 1, 1), -2);
    }

    private static void wishUnknown() {
        refused("chain 0", RefusalTests::wishing, x -> x.wish(0, 100), -1);
        refused("no pieces", RefusalTests::wishing, x -> x.wish(2, 100), -1);
        refused("chain 3", RefusalTests::wishing, x -> x.wish(3, 100), -1);
        refused("chain 21", RefusalTests::fullAndWishing, x -> x.wish(21, 100), -1);
    }

    private static void wishOutside() {
        refused("-1 instead of a kept one", RefusalTests::wishing, x -> x.wish(1, -1), -2);
        refused("the least", RefusalTests::wishing, x -> x.wish(1, Long.MIN_VALUE), -2);
        refused("-1 without one before", Samples::ordinary, x -> x.wish(1, -1), -2);
    }

    private static void shareUnknown() {
        refused("chain 0", RefusalTests::wishing, x -> x.share(0, 0), -1);
        refused("no pieces", RefusalTests::wishing, x -> x.share(2, 0), -1);
        refused("chain 3", RefusalTests::wishing, x -> x.share(3, 0), -1);
        refused("piece -2", RefusalTests::wishing, x -> x.share(1, -2), -1);
        refused("piece 3", RefusalTests::wishing, x -> x.share(1, 3), -1);
        refused("piece 12 of a full row", RefusalTests::fullAndWishing, x -> x.share(1, 12), -1);
    }

    private static void cycleUnknown() {
        refused("chain 0", RefusalTests::wishing, x -> x.cycle(0), -1);
        refused("no pieces", RefusalTests::wishing, x -> x.cycle(2), -1);
        refused("chain 3", RefusalTests::wishing, x -> x.cycle(3), -1);
    }

    private static void cycleThrows() {
        refused("one without period", RefusalTests::wishing, x -> cycleOf(x, 1), -99);
    }

    private static void steppedUnknown() {
        int[] unknown = {0, 2, 3};
        for (int chain : unknown) {
            refused("stepped " + chain, RefusalTests::wishing, x -> x.stepped(chain), -1);
            refused("plain " + chain, RefusalTests::wishing, x -> x.plain(chain) ? 1 : 0, 0);
        }
    }

    private static void pieceOrder() {
        ChainSums x = Samples.full();
        Answers.due("no room", x.piece(0, 5, 5), -4);
        Answers.due("no such kind, and no room", x.piece(3, 5, 5), -2);
        Answers.due("a long period, and no room", x.piece(0, 20001, 5), -2);
        Answers.due("a long answer, and no room", x.piece(0, 5, 20001), -2);
    }

    private static void addOrder() {
        ChainSums x = Samples.full();
        Answers.due("no chain, no period", x.add(21, 29, false), -1);
        Answers.due("no piece, a full row", x.add(1, 31, false), -1);
        Answers.due("no piece, an empty row", x.add(2, 31, true), -1);
        Answers.due("no period, a full row", x.add(1, 29, false), -3);
        Answers.due("a full row, in it already", x.add(1, 1, false), -4);
        Answers.due("a full row, in it already, set off", x.add(1, 12, true), -4);
        x.add(20, 29, true);
        Answers.due("no period, in it already", x.add(20, 29, false), -3);
        Answers.due("in it already", x.add(20, 29, true), 0);
    }

    private static void clockOrder() {
        ChainSums x = Samples.ordinary();
        Answers.due("no piece, down 0", x.clock(5, 0, 0), -1);
        Answers.due("no piece, up is down", x.clock(0, 5, 5), -1);
        Answers.due("no piece, down 1000001", x.clock(-1, 0, 1000001), -1);
        Answers.due("no period, up is down", x.clock(3, 5, 5), -2);
    }

    private static void wishOrder() {
        ChainSums x = Samples.ordinary();
        Answers.due("no chain, below 0", x.wish(3, -1), -1);
        Answers.due("no pieces, below 0", x.wish(2, -1), -1);
        Answers.due("chain 0, the least", x.wish(0, Long.MIN_VALUE), -1);
    }

    private static void cycleOrder() {
        ChainSums x = Samples.ordinary();
        Answers.dueArithmetic("one without period", x, 1);
        Answers.due("no pieces, one without period elsewhere", x.cycle(2), -1);
        Answers.due("no chain", x.cycle(3), -1);
    }

    private static void manyRefusals() {
        ChainSums x = new ChainSums();
        for (int n = 0; n < 150; n++) {
            x.piece(3, 1, 1);
            x.add(1, 1, false);
            x.piece(0, 20001, 1);
        }
        for (int n = 1; n <= 30; n++) {
            Answers.due("piece " + n, x.piece(0, n, 0), n);
        }
        for (int n = 1; n <= 20; n++) {
            Answers.due("chain " + n, x.chain(), n);
        }
    }
}
