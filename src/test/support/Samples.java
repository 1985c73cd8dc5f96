/** Objects in a state that several tests begin with. */
final class Samples {
    private Samples() {
    }

    /** Pieces 1 (10, 3), 2 (4, 2), 3 (none, 7), 4 (6, 0); chain 1: 1, 3 set off, 2; chain 2 is empty. */
    static ChainSums ordinary() {
        ChainSums x = new ChainSums();
        x.piece(0, 10, 3);
        x.piece(1, 4, 2);
        x.piece(2, 0, 7);
        x.piece(0, 6, 0);
        x.chain();
        x.chain();
        x.add(1, 1, false);
        x.add(1, 3, true);
        x.add(1, 2, false);
        return x;
    }

    /** One chain of sampling pieces: their periods and answers in turn. */
    static ChainSums sampling(long... periodsAndAnswers) {
        ChainSums x = new ChainSums();
        x.chain();
        for (int i = 0; i + 1 < periodsAndAnswers.length; i += 2) {
            x.add(1, x.piece(0, periodsAndAnswers[i], periodsAndAnswers[i + 1]), false);
        }
        return x;
    }

    /**
     * 30 pieces (the n-th of the period and the answer n, the 29th without period), 20 chains;
     * chain 1 has the pieces 1 to 12, all sampling; chain 20 has piece 30; the others are empty.
     */
    static ChainSums full() {
        ChainSums x = new ChainSums();
        for (int n = 1; n <= 30; n++) {
            x.piece(n % 3, n == 29 ? 0 : n, n);
        }
        for (int n = 1; n <= 20; n++) {
            x.chain();
        }
        for (int n = 1; n <= 12; n++) {
            x.add(1, n, false);
        }
        x.add(20, 30, false);
        return x;
    }
}
