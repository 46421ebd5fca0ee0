/** WORTH and THE ANSWER held against one another by what they mean, without a model. */
public final class MeaningTest {
    private static final double NEAR = 1e-12;
    private static final Checks CHECKS = new Checks("MeaningTest");
    private static long state = 191L;

    public static void main(String[] args) {
        for (int[] cups : Help.ALL_CUPS) {
            for (int wild = 0; wild < 2; wild++) {
                theAnswerWinsNoLessThanAPlan(cups, wild == 1);
                openingsWinTheAnswer(cups, wild == 1);
                repliesWinTheAnswer(cups, wild == 1);
            }
        }
        CHECKS.end();
    }

    private static DiceCups begun(String test, int[] cups, boolean wild) {
        CHECKS.begin(test + " (" + cups[0] + ", " + cups[1] + ", " + cups[2] + ", " + wild + ")");
        return Help.made(cups[0], cups[1], cups[2], wild);
    }

    private static int pick(int n) {
        state = state * 6364136223846793005L + 1442695040888963407L;
        return (int) ((state >>> 33) % n);
    }

    private static void someWeights(DiceCups x, int calls) {
        int bids = x.count(4);
        for (int i = 0; i < calls; i++) {
            int player = pick(2);
            int h = pick(x.hands(player));
            int last = pick(bids) - 1;
            boolean calling = last != Help.NONE && pick(3) == 0;
            int move = calling ? Help.CALL : last + 1 + pick(bids - last - 1);
            x.weigh(pick(4), player, h, last, move, pick(3) == 0 ? 0 : pick(21));
        }
    }

    private static double worth(DiceCups x, int p, int q) {
        return Double.longBitsToDouble(x.worth(p, q));
    }

    private static double answer(DiceCups x, int player, int plan) {
        return Double.longBitsToDouble(x.answer(player, plan));
    }

    private static void theAnswerWinsNoLessThanAPlan(int[] cups, boolean wild) {
        DiceCups x = begun("the answer wins no less than a plan", cups, wild);
        someWeights(x, 200);
        for (int p = 0; p < 4; p++) {
            double best = answer(x, 0, p);
            double bestSecond = answer(x, 1, p);
            CHECKS.sure("chances", best >= 0 && best <= 1 + NEAR
                && bestSecond >= 0 && bestSecond <= 1 + NEAR);
            for (int q = 0; q < 4; q++) {
                CHECKS.sure("PLAYER 0, plan " + q + " against " + p,
                    best >= worth(x, q, p) - NEAR);
                CHECKS.sure("PLAYER 1, plan " + q + " against " + p,
                    bestSecond >= 1.0 - worth(x, p, q) - NEAR);
            }
        }
    }

    /** Where PLAYER 1 calls always, the openings are all of the answer. */
    private static void openingsWinTheAnswer(int[] cups, boolean wild) {
        DiceCups x = begun("openings win the answer", cups, wild);
        Help.alwaysCall(x, 2, 1);
        int hands = x.hands(0);
        for (int g = 0; g < hands; g++) {
            Help.only(x, 3, 0, g, Help.NONE, x.opening(2, g));
        }
        double won = worth(x, 3, 2);
        CHECKS.sure("worth " + won, Math.abs(won - answer(x, 0, 2)) < NEAR);
    }

    /** Where PLAYER 0 bids once and then calls, the replies are all of the answer. */
    private static void repliesWinTheAnswer(int[] cups, boolean wild) {
        DiceCups x = begun("replies win the answer", cups, wild);
        Help.alwaysCall(x, 1, 0);
        int bids = x.count(4);
        int hands = x.hands(0);
        for (int g = 0; g < hands; g++) {
            for (int bid = 0; bid < bids; bid++) {
                x.weigh(1, 0, g, Help.NONE, bid, pick(2) == 0 ? 0 : pick(21));
            }
        }
        hands = x.hands(1);
        for (int h = 0; h < hands; h++) {
            for (int bid = 0; bid < bids; bid++) {
                Help.only(x, 0, 1, h, bid, x.reply(1, h, bid));
            }
        }
        double lost = 1.0 - worth(x, 1, 0);
        CHECKS.sure("worth " + lost, Math.abs(lost - answer(x, 1, 1)) < NEAR);
    }
}
