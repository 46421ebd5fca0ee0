/** What several tests do with a DiceCups. */
final class Help {
    static final int LOW = Integer.MIN_VALUE;
    static final int HIGH = Integer.MAX_VALUE;
    static final int CALL = -1;
    static final int NONE = -1;
    static final int BAD = -2;
    static final int NO = -3;
    /** All cups that may be: dice of player 0, of player 1, pips, and how many bids. */
    static final int[][] ALL_CUPS = {{1, 1, 2, 4}, {1, 1, 3, 6}, {1, 1, 4, 8}, {1, 2, 2, 6},
        {2, 1, 2, 6}, {2, 2, 2, 8}, {1, 3, 2, 8}, {3, 1, 2, 8}};

    private Help() {
    }

    static long bits(double x) {
        return Double.doubleToRawLongBits(x);
    }

    static DiceCups made(int d0, int d1, int faces, boolean wild) {
        DiceCups x = new DiceCups();
        if (x.cups(d0, d1, faces, wild) != (d0 + d1) * faces) {
            throw new IllegalStateException("cups(" + d0 + ", " + d1 + ", " + faces + ")");
        }
        return x;
    }

    static int[] counts(DiceCups x) {
        int[] all = new int[7];
        for (int what = 0; what < all.length; what++) {
            all[what] = x.count(what);
        }
        return all;
    }

    static int[] abouts(DiceCups x) {
        return new int[] {x.about(0), x.about(1), x.about(2), x.about(3)};
    }

    static boolean mayFollow(int last, int move) {
        return move == CALL ? last != NONE : move > last;
    }

    /** Tells the weights of the moves that may be, CALL ahead of bids; those not told are 0. */
    static void weights(DiceCups x, int plan, int player, int h, int last, int... told) {
        int bids = x.count(4);
        int next = 0;
        for (int move = CALL; move < bids; move++) {
            if (mayFollow(last, move)) {
                x.weigh(plan, player, h, last, move, next < told.length ? told[next] : 0);
                next++;
            }
        }
    }

    /** Has a hand make one move alone behind a last bid; any other number leaves no weight. */
    static void only(DiceCups x, int plan, int player, int h, int last, int move) {
        int bids = x.count(4);
        for (int m = CALL; m < bids; m++) {
            if (mayFollow(last, m)) {
                x.weigh(plan, player, h, last, m, m == move ? 7 : 0);
            }
        }
    }

    /** The same for every hand of the player. */
    static void allOnly(DiceCups x, int plan, int player, int last, int move) {
        int hands = x.hands(player);
        for (int h = 0; h < hands; h++) {
            only(x, plan, player, h, last, move);
        }
    }

    /** Has every hand of the player call, whatever was bid. */
    static void alwaysCall(DiceCups x, int plan, int player) {
        int bids = x.count(4);
        for (int last = 0; last < bids; last++) {
            allOnly(x, plan, player, last, CALL);
        }
    }

    /** The pips that a seed draws, told with long numbers. */
    static int[] drawn(int seed, int dice, int faces) {
        int[] pips = new int[dice];
        long x = seed;
        for (int i = 0; i < dice; i++) {
            x = (x * 1103515245L + 12345L) & 0x7fffffffL;
            pips[i] = (int) ((x / 65536L) % faces);
        }
        return pips;
    }
}
