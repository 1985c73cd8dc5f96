/** How long what happens at the beginning of a chain of pieces takes to its end. */
public final class ChainSums {
    private static final int UNKNOWN = -1;
    private static final int OUTSIDE = -2;
    private static final int WRONG_STATE = -3;
    private static final int NO_ROOM = -4;

    private static final int MOST_PIECES = 30;
    private static final int MOST_CHAINS = 20;
    private static final int MOST_IN_A_CHAIN = 12;
    private static final int LAST_KIND = 2;
    private static final long LONGEST_PERIOD = 20000;
    private static final long LONGEST_ANSWER = 20000;
    private static final long LARGEST_DOWN = 1000000;
    private static final long LONGEST_CYCLE = 1000000000;
    private static final long LONGEST_STEPPED_CYCLE = 20000;
    private static final int ALL_WISHES = -1;
    private static final long NO_WISH = -1;

    private final Piece[] pieces;
    private final Chain[] chains;
    private int pieceCount;
    private int chainCount;

    public ChainSums() {
        pieces = new Piece[MOST_PIECES];
        chains = new Chain[MOST_CHAINS];
        pieceCount = 0;
        chainCount = 0;
    }

    public int piece(int kind, long period, long answer) {
        if (kind < 0 || kind > LAST_KIND) {
            return OUTSIDE;
        }
        if (period < 0 || period > LONGEST_PERIOD || answer < 0 || answer > LONGEST_ANSWER) {
            return OUTSIDE;
        }
        if (pieceCount >= MOST_PIECES) {
            return NO_ROOM;
        }
        pieces[pieceCount] = new Piece(period, answer);
        pieceCount++;
        return pieceCount;
    }

    public int chain() {
        if (chainCount >= MOST_CHAINS) {
            return NO_ROOM;
        }
        chains[chainCount] = new Chain();
        chainCount++;
        return chainCount;
    }

    public int add(int chain, int piece, boolean triggered) {
        Chain to = chainNumbered(chain);
        Piece added = pieceNumbered(piece);
        if (to == null || added == null) {
            return UNKNOWN;
        }
        // What comes first has nothing before it that could set it off.
        boolean sampling = !triggered || to.count == 0;
        if (sampling && added.period == 0) {
            return WRONG_STATE;
        }
        if (to.count >= MOST_IN_A_CHAIN) {
            return NO_ROOM;
        }
        if (to.holds(added)) {
            return 0;
        }
        to.append(added, sampling);
        return 1;
    }

    public long worst(int chain, boolean age) {
        Chain asked = filledChain(chain);
        if (asked == null) {
            return UNKNOWN;
        }
        return age ? asked.worstAge() : asked.worstReaction();
    }

    public long best(int chain, boolean age) {
        Chain asked = filledChain(chain);
        if (asked == null) {
            return UNKNOWN;
        }
        return asked.answersFrom(age ? 1 : 0);
    }

    public int clock(int piece, long up, long down) {
        Piece told = pieceNumbered(piece);
        if (told == null) {
            return UNKNOWN;
        }
        if (down < 1 || down > LARGEST_DOWN || up < 0 || up >= down) {
            return OUTSIDE;
        }
        told.up = up;
        told.down = down;
        return (int) told.longPeriod();
    }

    public int wish(int chain, long micros) {
        Chain told = filledChain(chain);
        if (told == null) {
            return UNKNOWN;
        }
        if (micros < 0) {
            return OUTSIDE;
        }
        told.wished = micros;
        return told.keepsWish() ? 1 : 0;
    }

    public int share(int chain, int i) {
        if (i == ALL_WISHES) {
            return wishesKept();
        }
        Chain asked = filledChain(chain);
        if (asked == null || i < 0 || i >= asked.count) {
            return UNKNOWN;
        }
        long whole = asked.worstReaction();
        if (whole == 0) {
            return UNKNOWN;
        }
        return (int) (asked.broughtBy(i) * 1000 / whole);
    }

    public long cycle(int chain) throws ArithmeticException {
        Chain asked = filledChain(chain);
        if (asked == null) {
            return UNKNOWN;
        }
        if (asked.lacksPeriod()) {
            throw new ArithmeticException("a piece of the chain has no period");
        }
        return asked.commonCycle(false);
    }

    public long stepped(int chain) {
        Chain asked = filledChain(chain);
        if (asked == null) {
            return UNKNOWN;
        }
        return asked.canBeStepped() ? asked.longestByStepping() : asked.worstReaction();
    }

    public boolean plain(int chain) {
        Chain asked = filledChain(chain);
        return asked != null && asked.canBeStepped();
    }

    private Piece pieceNumbered(int number) {
        return number < 1 || number > pieceCount ? null : pieces[number - 1];
    }

    private Chain chainNumbered(int number) {
        return number < 1 || number > chainCount ? null : chains[number - 1];
    }

    /** The chain of that number, or null if there is none or it has no pieces. */
    private Chain filledChain(int number) {
        Chain found = chainNumbered(number);
        return found == null || found.count == 0 ? null : found;
    }

    private int wishesKept() {
        int kept = 0;
        for (int c = 0; c < chainCount; c++) {
            if (chains[c].keepsWish()) {
                kept++;
            }
        }
        return kept;
    }

    /** How many units cover the value; 0 for a unit that covers nothing. */
    private static long unitsUpwards(long value, long unit) {
        return unit < 1 ? 0 : (value + unit - 1) / unit;
    }

    private static long greatestCommonDivisor(long a, long b) {
        long large = a;
        long small = b;
        // Two rounds at least halve the larger number, so a long's 63 bits need 126 at the most.
        for (int round = 0; round < 126 && small > 0; round++) {
            long rest = large % small;
            large = small;
            small = rest;
        }
        return large;
    }

    private static long leastCommonMultiple(long a, long b) {
        long divisor = greatestCommonDivisor(a, b);
        return divisor < 1 ? 0 : a / divisor * b;
    }

    /** One piece; chains share it, so that a clock told later counts in all of them. */
    private static final class Piece {
        private final long period;
        private final long answer;
        private long up;
        private long down;

        private Piece(long period, long answer) {
            this.period = period;
            this.answer = answer;
            this.up = 0;
            this.down = 1;
        }

        private long longPeriod() {
            return unitsUpwards(period * (down + up), down);
        }
    }

    private static final class Chain {
        private final Piece[] row;
        private final boolean[] sampling;
        private int count;
        private long wished;

        private Chain() {
            row = new Piece[MOST_IN_A_CHAIN];
            sampling = new boolean[MOST_IN_A_CHAIN];
            count = 0;
            wished = NO_WISH;
        }

        private boolean holds(Piece piece) {
            for (int i = 0; i < count; i++) {
                if (row[i] == piece) {
                    return true;
                }
            }
            return false;
        }

        private void append(Piece piece, boolean samples) {
            if (count < MOST_IN_A_CHAIN) {
                row[count] = piece;
                sampling[count] = samples;
                count++;
            }
        }

        private long broughtBy(int i) {
            return sampling[i] ? row[i].longPeriod() + row[i].answer : row[i].answer;
        }

        private long worstReaction() {
            long sum = 0;
            for (int i = 0; i < count; i++) {
                sum += broughtBy(i);
            }
            return sum;
        }

        private long worstAge() {
            long first = 0;
            long last = 0;
            for (int i = 0; i < count; i++) {
                if (i == 0) {
                    first = row[i].longPeriod();
                }
                if (sampling[i]) {
                    last = row[i].longPeriod();
                }
            }
            return worstReaction() - first + last;
        }

        private long answersFrom(int first) {
            long sum = 0;
            for (int i = first; i < count; i++) {
                sum += row[i].answer;
            }
            return sum;
        }

        private boolean keepsWish() {
            return wished != NO_WISH && worstReaction() <= wished;
        }

        private boolean lacksPeriod() {
            for (int i = 0; i < count; i++) {
                if (row[i].period == 0) {
                    return true;
                }
            }
            return false;
        }

        /** The least common multiple of the periods, or the longest cycle if it is more. */
        private long commonCycle(boolean ofSamplingAlone) {
            long common = 1;
            for (int i = 0; i < count; i++) {
                if (sampling[i] || !ofSamplingAlone) {
                    common = Math.min(LONGEST_CYCLE, leastCommonMultiple(common, row[i].period));
                }
            }
            return common;
        }

        private boolean clocksAreRight() {
            for (int i = 0; i < count; i++) {
                if (row[i].up != 0) {
                    return false;
                }
            }
            return true;
        }

        private boolean canBeStepped() {
            return clocksAreRight() && commonCycle(true) <= LONGEST_STEPPED_CYCLE;
        }

        /**
         * Of all that waits for the same begin of the first piece, what came just after the begin
         * before it waits longest: so one look for each begin finds the worst of all moments.
         */
        private long longestByStepping() {
            if (count == 0 || row[0].period < 1) {
                return 0;
            }
            long firstPeriod = row[0].period;
            long begins = commonCycle(true) / firstPeriod;
            long longest = 0;
            for (long k = 0; k < begins; k++) {
                longest = Math.max(longest, timeFromBegin(k * firstPeriod));
            }
            return firstPeriod - 1 + longest;
        }

        /** The time to the chain's end from a moment at which its first piece begins. */
        private long timeFromBegin(long begin) {
            long now = begin;
            for (int i = 0; i < count; i++) {
                if (sampling[i]) {
                    now = unitsUpwards(now, row[i].period) * row[i].period;
                }
                now += row[i].answer;
            }
            return now - begin;
        }
    }
}
