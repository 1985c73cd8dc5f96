import java.math.BigInteger;
import java.util.ArrayList;
import java.util.List;
import java.util.Random;

/**
 * Runs of 512 calls against a second program that follows the document word by word (each moment
 * t is stepped, each multiple is a BigInteger). The seeds are fixed, so each run can be repeated.
 */
public final class ModelTests {
    private static final int RUNS = 400;
    private static final int CALLS = 512;
    private static final int[] ODD_INTS = {0, -1, -2, 21, 31, Integer.MIN_VALUE, Integer.MAX_VALUE};
    private static final long[] ODD_LONGS = {0, 1, -1, 19999, 20000, 20001, 999999, 1000000, 1000001,
        1L << 32, (1L << 32) + 5, Long.MIN_VALUE, Long.MAX_VALUE};
    /** Answers of cycle are never this, so that it can stand for the exception. */
    private static final long THROWN = -99;
    private static int wrong = 0;

    public static void main(String[] args) {
        for (int seed = 1; seed <= RUNS && wrong < 20; seed++) {
            new Run(seed).play();
        }
        System.out.println(wrong == 0 ? "all runs agree with the model" : wrong + " calls disagree with the model");
        if (wrong != 0) {
            System.exit(1);
        }
    }

    private static final class Run {
        private final int seed;
        private final Random random;
        private final int mostPeriod;
        private final boolean mostlyRightClocks;
        private final ChainSums real = new ChainSums();
        private final Model model = new Model();

        Run(int seed) {
            this.seed = seed;
            random = new Random(seed);
            mostPeriod = new int[] {3, 12, 60, 300, 20000}[seed % 5];
            mostlyRightClocks = seed % 2 == 0;
        }

        void play() {
            for (int call = 0; call < CALLS; call++) {
                step(call);
            }
        }

        private void step(int call) {
            int what = random.nextInt(100);
            int c = number(model.chains.size());
            int p = number(model.pieces.size());
            boolean flag = random.nextBoolean();
            try {
                if (what < 8) {
                    int kind = random.nextInt(15) == 0 ? number(3) : random.nextInt(3);
                    long period = length(mostPeriod);
                    long answer = length(40);
                    due(call, "piece " + kind + " " + period + " " + answer,
                            real.piece(kind, period, answer), model.piece(kind, period, answer));
                } else if (what < 12) {
                    due(call, "chain", real.chain(), model.chain());
                } else if (what < 40) {
                    due(call, "add " + c + " " + p + " " + flag, real.add(c, p, flag), model.add(c, p, flag));
                } else if (what < 48) {
                    due(call, "worst " + c + " " + flag, real.worst(c, flag), model.worst(c, flag));
                } else if (what < 54) {
                    due(call, "best " + c + " " + flag, real.best(c, flag), model.best(c, flag));
                } else if (what < 62) {
                    long down = length(50);
                    long up = random.nextInt(10) == 0 ? length(50) : down > 0 && !mostlyRightClocks
                            ? Math.floorMod(random.nextLong(), down) : 0;
                    due(call, "clock " + p + " " + up + " " + down, real.clock(p, up, down), model.clock(p, up, down));
                } else if (what < 70) {
                    long micros = random.nextInt(3) == 0 ? length(100) : model.worst(c, false) + random.nextInt(3) - 1;
                    due(call, "wish " + c + " " + micros, real.wish(c, micros), model.wish(c, micros));
                } else if (what < 80) {
                    int i = random.nextInt(4) == 0 ? number(12) : random.nextInt(14) - 1;
                    due(call, "share " + c + " " + i, real.share(c, i), model.share(c, i));
                } else if (what < 87) {
                    due(call, "cycle " + c, realCycle(c), model.cycle(c));
                } else if (what < 94) {
                    due(call, "stepped " + c, real.stepped(c), model.stepped(c));
                } else {
                    due(call, "plain " + c, real.plain(c) ? 1 : 0, model.plain(c) ? 1 : 0);
                }
            } catch (RuntimeException e) {
                wrong++;
                System.out.println("seed " + seed + ", call " + call + ", kind " + what + ": threw " + e);
            }
        }

        private long realCycle(int c) {
            try {
                return real.cycle(c);
            } catch (ArithmeticException e) {
                // A division's own exception has the text "/ by zero" and is never the document's.
                if (e.getMessage() != null && e.getMessage().contains("/ by zero")) {
                    throw new IllegalStateException("the machine threw");
                }
                return THROWN;
            }
        }

        private int number(int most) {
            if (random.nextInt(25) == 0) {
                return ODD_INTS[random.nextInt(ODD_INTS.length)];
            }
            return 1 + random.nextInt(most + (random.nextInt(10) == 0 ? 2 : 0) + (most == 0 ? 1 : 0));
        }

        private long length(int most) {
            if (random.nextInt(12) == 0) {
                return ODD_LONGS[random.nextInt(ODD_LONGS.length)];
            }
            return random.nextInt(10) == 0 ? 0 : 1 + random.nextInt(most);
        }

        private void due(int call, String what, long got, long want) {
            if (got != want) {
                wrong++;
                System.out.println("seed " + seed + ", call " + call + ": " + what + " answered " + got + ", due is " + want);
            }
        }
    }

    private static final class ModelPiece {
        private long period;
        private long answer;
        private long up = 0;
        private long down = 1;

        long longPeriod() {
            BigInteger[] parts = BigInteger.valueOf(period).multiply(BigInteger.valueOf(down + up))
                    .divideAndRemainder(BigInteger.valueOf(down));
            return parts[0].longValueExact() + parts[1].signum();
        }
    }

    private static final class Link {
        private ModelPiece piece;
        private boolean sampling;

        long brings() {
            return (sampling ? piece.longPeriod() : 0) + piece.answer;
        }
    }

    private static final class ModelChain {
        private final List<Link> links = new ArrayList<>();
        private Long wish = null;

        long worstReaction() {
            return links.stream().mapToLong(Link::brings).sum();
        }
    }

    private static final class Model {
        private final List<ModelPiece> pieces = new ArrayList<>();
        private final List<ModelChain> chains = new ArrayList<>();

        private boolean hasPieces(int c) {
            return c >= 1 && c <= chains.size() && !chains.get(c - 1).links.isEmpty();
        }

        private List<Link> links(int c) {
            return chains.get(c - 1).links;
        }

        int piece(int kind, long period, long answer) {
            if (kind < 0 || kind > 2 || period < 0 || period > 20000 || answer < 0 || answer > 20000) {
                return -2;
            }
            if (pieces.size() == 30) {
                return -4;
            }
            ModelPiece made = new ModelPiece();
            made.period = period;
            made.answer = answer;
            pieces.add(made);
            return pieces.size();
        }

        int chain() {
            if (chains.size() == 20) {
                return -4;
            }
            chains.add(new ModelChain());
            return chains.size();
        }

        int add(int c, int p, boolean triggered) {
            if (c < 1 || c > chains.size() || p < 1 || p > pieces.size()) {
                return -1;
            }
            Link made = new Link();
            made.piece = pieces.get(p - 1);
            made.sampling = links(c).isEmpty() || !triggered;
            if (made.sampling && made.piece.period == 0) {
                return -3;
            }
            if (links(c).size() == 12) {
                return -4;
            }
            if (links(c).stream().anyMatch(l -> l.piece == made.piece)) {
                return 0;
            }
            links(c).add(made);
            return 1;
        }

        long worst(int c, boolean age) {
            if (!hasPieces(c)) {
                return -1;
            }
            long reaction = chains.get(c - 1).worstReaction();
            if (!age) {
                return reaction;
            }
            int last = links(c).size() - 1;
            while (!links(c).get(last).sampling) {
                last--;
            }
            return reaction - links(c).get(0).piece.longPeriod() + links(c).get(last).piece.longPeriod();
        }

        long best(int c, boolean age) {
            if (!hasPieces(c)) {
                return -1;
            }
            return links(c).stream().mapToLong(l -> l.piece.answer).sum() - (age ? links(c).get(0).piece.answer : 0);
        }

        int clock(int p, long up, long down) {
            if (p < 1 || p > pieces.size()) {
                return -1;
            }
            if (down < 1 || down > 1000000 || up < 0 || up > down - 1) {
                return -2;
            }
            ModelPiece told = pieces.get(p - 1);
            told.up = up;
            told.down = down;
            return told.period == 0 ? 0 : (int) told.longPeriod();
        }

        int wish(int c, long micros) {
            if (!hasPieces(c)) {
                return -1;
            }
            if (micros < 0) {
                return -2;
            }
            chains.get(c - 1).wish = micros;
            return worst(c, false) <= micros ? 1 : 0;
        }

        int share(int c, int i) {
            if (i == -1) {
                return (int) chains.stream().filter(k -> k.wish != null && k.worstReaction() <= k.wish).count();
            }
            if (!hasPieces(c) || i < 0 || i >= links(c).size() || worst(c, false) == 0) {
                return -1;
            }
            return (int) Math.floorDiv(1000 * links(c).get(i).brings(), worst(c, false));
        }

        private BigInteger multiple(int c, boolean samplingAlone) {
            BigInteger m = BigInteger.ONE;
            for (Link l : links(c)) {
                if (l.sampling || !samplingAlone) {
                    BigInteger period = BigInteger.valueOf(l.piece.period);
                    m = m.multiply(period).divide(m.gcd(period));
                }
            }
            return m;
        }

        long cycle(int c) {
            if (!hasPieces(c)) {
                return -1;
            }
            if (links(c).stream().anyMatch(l -> l.piece.period == 0)) {
                return THROWN;
            }
            return multiple(c, false).min(BigInteger.valueOf(1000000000)).longValueExact();
        }

        boolean plain(int c) {
            return hasPieces(c) && links(c).stream().allMatch(l -> l.piece.up == 0)
                    && multiple(c, true).compareTo(BigInteger.valueOf(20000)) <= 0;
        }

        long stepped(int c) {
            if (!plain(c)) {
                return worst(c, false);
            }
            long m = multiple(c, true).longValueExact();
            long longest = 0;
            for (long t = 0; t < m; t++) {
                long now = t;
                for (Link l : links(c)) {
                    now += (l.sampling ? Math.floorMod(-now, l.piece.period) : 0) + l.piece.answer;
                }
                longest = Math.max(longest, now - t);
            }
            return longest;
        }
    }
}
