/** Long runs of mixed calls, each answered by DiceCups and by the model of the document. */
public final class ModelTest {
    private static final int RUNS = 260;
    private static final int CALLS = 512;
    private static final int[][] ALL_CUPS = {
        {1, 1, 2}, {1, 1, 3}, {1, 1, 4}, {1, 2, 2}, {2, 1, 2}, {2, 2, 2}, {1, 3, 2}, {3, 1, 2}};

    private final Checks checks = new Checks("ModelTest");
    private long state;
    private DiceCups x;
    private Model model;

    public static void main(String[] args) {
        ModelTest test = new ModelTest();
        for (int run = 0; run < RUNS && !test.checks.anyWrong(); run++) {
            test.play(run);
        }
        test.checks.end();
    }

    private void play(int run) {
        state = 1000L + run;
        x = new DiceCups();
        model = new Model();
        // Some runs stay with the cups of a new object; weights pile up best where cups stay.
        if (run % 9 != 8) {
            callCups(ALL_CUPS[run % 9 % 8], run / 9 % 2 == 1);
        }
        int zeroes = pick(4);
        for (int i = 2; i < CALLS; i++) {
            int kind = pick(64);
            if (kind < 30) {
                callWeigh(zeroes);
            } else if (kind < 31) {
                anyCups();
            } else {
                callOther(kind);
            }
        }
        checks.due("run " + run + ": digest()", x.digest(), model.digest());
    }

    private int pick(int n) {
        state = state * 6364136223846793005L + 1442695040888963407L;
        return (int) ((state >>> 33) % n);
    }

    /** Mostly a number from least to most, now and then one about or far beside them. */
    private int near(int least, int most) {
        int kind = pick(40);
        if (kind == 0) {
            return least - 1;
        }
        if (kind == 1) {
            return most + 1;
        }
        if (kind == 2) {
            int[] far = {Integer.MIN_VALUE, Integer.MAX_VALUE, -100, 100, 1 << 30};
            return far[pick(far.length)];
        }
        return least + pick(most - least + 1);
    }

    private int someHand(int player) {
        return near(0, model.hands(player == 1 ? 1 : 0) - 1);
    }

    private int lastBid() {
        return model.count(4) - 1;
    }

    private void callCups(int[] cups, boolean wild) {
        String call = "cups(" + cups[0] + ", " + cups[1] + ", " + cups[2] + ", " + wild + ")";
        checks.due(call, x.cups(cups[0], cups[1], cups[2], wild),
            model.cups(cups[0], cups[1], cups[2], wild));
    }

    private void anyCups() {
        if (pick(12) == 0) {
            callCups(ALL_CUPS[pick(ALL_CUPS.length)], pick(2) == 0);
        } else {
            callCups(new int[] {near(3, 4), near(1, 4), near(2, 4)}, pick(2) == 0);
        }
    }

    private void callWeigh(int zeroes) {
        int plan = near(0, 3);
        int player = near(0, 1);
        int h = someHand(player);
        int last = near(-1, lastBid());
        int move = pick(2) == 0 ? near(-1, lastBid()) : last + 1 + pick(3);
        int w = pick(4) < zeroes ? 0 : near(0, 20);
        checks.due("weigh(" + plan + ", " + player + ", " + h + ", " + last + ", " + move + ", "
            + w + ")", x.weigh(plan, player, h, last, move, w),
            model.weigh(plan, player, h, last, move, w));
    }

    private void callOther(int kind) {
        if (kind < 40) {
            askHands(kind);
        } else if (kind < 52) {
            askPlans(kind);
        } else {
            askRound(kind);
        }
    }

    private void askHands(int kind) {
        int player = near(0, 1);
        int h = someHand(player);
        int bid = near(0, lastBid());
        String call = "(player " + player + ", hand " + h + ", bid " + bid + ")";
        switch (kind) {
            case 31: checks.due("hands" + call, x.hands(player), model.hands(player)); break;
            case 32: case 33:
                int face = near(0, model.count(2) - 1);
                checks.due("hand" + call + face, x.hand(player, h, face),
                    model.hand(player, h, face));
                break;
            case 34: checks.due("throwsOf" + call, x.throwsOf(player, h),
                model.throwsOf(player, h)); break;
            case 35: case 36:
                int g = someHand(0);
                checks.due("holds" + g + call, x.holds(g, h, bid), model.holds(g, h, bid));
                break;
            case 37: case 38:
                int what = near(0, 1);
                checks.due("chance" + call + what, x.chance(player, h, bid, what),
                    model.chance(player, h, bid, what));
                break;
            default:
                int a = pick(2) == 0 ? near(1, 8) : near(1, 100);
                int b = pick(2) == 0 ? near(1, 8) : near(1, 100);
                checks.due("surest" + call + a + " by " + b, x.surest(player, h, a, b),
                    model.surest(player, h, a, b));
        }
    }

    private void askPlans(int kind) {
        int p = near(0, 3);
        int q = near(0, 3);
        int player = near(0, 1);
        int bid = near(0, lastBid());
        if (kind < 43) {
            checks.due("worth(" + p + ", " + q + ")", x.worth(p, q), model.worth(p, q));
        } else if (kind < 46) {
            checks.due("answer(" + player + ", " + p + ")", x.answer(player, p),
                model.answer(player, p));
        } else if (kind < 49) {
            int h = someHand(0);
            checks.due("opening(" + p + ", " + h + ")", x.opening(p, h), model.opening(p, h));
        } else {
            int h = someHand(1);
            checks.due("reply(" + p + ", " + h + ", " + bid + ")", x.reply(p, h, bid),
                model.reply(p, h, bid));
        }
    }

    private void askRound(int kind) {
        int player = near(0, 1);
        switch (kind) {
            case 52:
                int seed = pick(2) == 0 ? near(0, 50) : pick(Integer.MAX_VALUE);
                checks.due("round(" + seed + ")", x.round(seed), model.round(seed));
                break;
            case 53: checks.due("held(" + player + ")", x.held(player), model.held(player)); break;
            case 54: case 55: case 56: case 57:
                int last = Math.max(-1, model.about(1));
                int m = pick(3) == 0 ? near(-1, lastBid()) : last + 1 + pick(2);
                checks.due("move(" + m + ")", x.move(m), model.move(m));
                break;
            case 58: checks.due("move(-1)", x.move(-1), model.move(-1)); break;
            case 59: case 60:
                int what = near(0, 3);
                checks.due("about(" + what + ")", x.about(what), model.about(what));
                break;
            case 61:
                int which = near(0, 6);
                checks.due("count(" + which + ")", x.count(which), model.count(which));
                break;
            default: checks.due("digest()", x.digest(), model.digest());
        }
    }
}
