/** For each promise of the document: ordinary calls, its edges and wrong calls, worked by hand. */
public final class PromisesTest {
    private static final int LOW = Help.LOW;
    private static final int HIGH = Help.HIGH;
    private static final Checks CHECKS = new Checks("PromisesTest");

    public static void main(String[] args) {
        aNewObject();
        cups();
        cupsForget();
        hands();
        handsInOrder();
        throwsOfHands();
        holds();
        chance();
        surest();
        weigh();
        weighIsKeptByDice();
        weighBad();
        worth();
        worthOfWeights();
        worthThatIsSmall();
        answer();
        answerToWeights();
        opening();
        reply();
        round();
        held();
        moves();
        movesRefused();
        about();
        count();
        digest();
        refusedCallsChangeNothing();
        CHECKS.end();
    }

    private static void due(String call, long got, long want) {
        CHECKS.due(call, got, want);
    }

    private static void rowDue(String call, int[] got, int... want) {
        CHECKS.rowDue(call, got, want);
    }

    private static void aNewObject() {
        DiceCups x = new DiceCups();
        rowDue("counts when new", Help.counts(x), 1, 1, 2, 0, 4, 0, 0);
        due("new about(0)", x.about(0), -3);
        due("new held(0)", x.held(0), -3);
        due("new move(0)", x.move(0), -3);
        due("new weight", x.weigh(3, 1, 1, 2, 3, 1), 1);
        due("new holds(0, 1, 1)", x.holds(0, 1, 1), 1);
        due("new holds(0, 0, 1)", x.holds(0, 0, 1), 0);
        due("NONE", DiceCups.NONE, -1);
        due("BAD", DiceCups.BAD, -2);
        due("NO", DiceCups.NO, -3);
    }

    private static boolean mayBeCups(long d0, long d1, long faces) {
        boolean each = d0 >= 1 && d0 <= 3 && d1 >= 1 && d1 <= 3 && faces >= 2 && faces <= 4;
        return each && (d0 + d1) * faces <= 8;
    }

    private static void cups() {
        int[] numbers = {LOW, -1, 0, 1, 2, 3, 4, 5, 1 << 30, HIGH};
        int allowed = 0;
        for (int d0 : numbers) {
            for (int d1 : numbers) {
                DiceCups x = new DiceCups();
                for (int faces : numbers) {
                    boolean fine = mayBeCups(d0, d1, faces);
                    allowed += fine ? 1 : 0;
                    due("cups(" + d0 + ", " + d1 + ", " + faces + ")",
                        x.cups(d0, d1, faces, true), fine ? (d0 + d1) * faces : -2);
                }
            }
        }
        due("how many cups may be", allowed, 8);
        DiceCups x = new DiceCups();
        due("cups(1, 3, 2)", x.cups(1, 3, 2, true), 8);
        rowDue("counts", Help.counts(x), 1, 3, 2, 1, 8, 0, 0);
        due("cups(1, 1, 3)", x.cups(1, 1, 3, false), 6);
        rowDue("counts", Help.counts(x), 1, 1, 3, 0, 6, 0, 0);
    }

    private static void cupsForget() {
        DiceCups x = new DiceCups();
        x.weigh(2, 0, 1, -1, 3, 9);
        x.round(7);
        x.move(1);
        x.move(3);
        x.move(-1);
        due("won", x.count(5), 1);
        due("refused cups", x.cups(2, 3, 2, false), -2);
        due("held after refused cups", x.held(0), 0);
        due("cups", x.cups(1, 1, 2, false), 4);
        due("won behind cups", x.count(5), 1);
        due("lost behind cups", x.count(6), 0);
        due("held behind cups", x.held(0), -3);
        due("about behind cups", x.about(3), -3);
        due("move behind cups", x.move(0), -3);
        due("weight behind cups", x.weigh(2, 0, 1, -1, 3, 5), 1);
        x.round(7);
        x.cups(2, 2, 2, false);
        due("move behind cups in a round", x.move(0), -3);
        due("weight of 1 die behind cups of 2", x.weigh(2, 0, 1, -1, 3, 5), 1);
        x.cups(1, 1, 2, false);
        due("weight behind cups and cups", x.weigh(2, 0, 1, -1, 3, 5), 1);
    }

    private static void hands() {
        int[][] want = {{1, 1, 2, 2, 2}, {1, 1, 3, 3, 3}, {1, 1, 4, 4, 4}, {1, 2, 2, 2, 3},
            {2, 1, 2, 3, 2}, {2, 2, 2, 3, 3}, {1, 3, 2, 2, 4}, {3, 1, 2, 4, 2}};
        for (int[] row : want) {
            DiceCups x = Help.made(row[0], row[1], row[2], false);
            due("hands(0)", x.hands(0), row[3]);
            due("hands(1)", x.hands(1), row[4]);
            due("hands(2)", x.hands(2), -2);
            due("hands(-1)", x.hands(-1), -2);
        }
    }

    private static void handRows(DiceCups x, int player, int[]... rows) {
        for (int h = 0; h < rows.length; h++) {
            for (int face = 0; face < rows[h].length; face++) {
                due("hand(" + player + ", " + h + ", " + face + ")", x.hand(player, h, face),
                    rows[h][face]);
            }
            due("hand with face -1", x.hand(player, h, -1), -100);
            due("hand with face F", x.hand(player, h, rows[h].length), -100);
            due("hand with face HIGH", x.hand(player, h, HIGH), -100);
        }
        due("hand -1", x.hand(player, -1, 0), -100);
        due("hand behind the last", x.hand(player, rows.length, 0), -100);
        due("hand LOW", x.hand(player, LOW, 0), -100);
        due("hand HIGH", x.hand(player, HIGH, 0), -100);
    }

    private static void handsInOrder() {
        int[][] one = {{1, 0}, {0, 1}};
        int[][] two = {{2, 0}, {1, 1}, {0, 2}};
        int[][] three = {{3, 0}, {2, 1}, {1, 2}, {0, 3}};
        DiceCups x = Help.made(1, 3, 2, false);
        handRows(x, 0, one);
        handRows(x, 1, three);
        x = Help.made(3, 1, 2, true);
        handRows(x, 0, three);
        handRows(x, 1, one);
        handRows(Help.made(2, 2, 2, true), 1, two);
        handRows(Help.made(1, 1, 3, false), 0, new int[][] {{1, 0, 0}, {0, 1, 0}, {0, 0, 1}});
        handRows(Help.made(1, 1, 4, false), 1,
            new int[][] {{1, 0, 0, 0}, {0, 1, 0, 0}, {0, 0, 1, 0}, {0, 0, 0, 1}});
        due("hand of player 2", x.hand(2, 0, 0), -100);
        due("hand of player -1", x.hand(-1, 0, 0), -100);
    }

    private static void throwRow(DiceCups x, int player, int... want) {
        for (int h = 0; h < want.length; h++) {
            due("throwsOf(" + player + ", " + h + ")", x.throwsOf(player, h), want[h]);
        }
        due("throwsOf behind the last", x.throwsOf(player, want.length), -2);
        due("throwsOf -1", x.throwsOf(player, -1), -2);
        due("throwsOf HIGH", x.throwsOf(player, HIGH), -2);
    }

    private static void throwsOfHands() {
        DiceCups x = Help.made(1, 3, 2, false);
        throwRow(x, 0, 1, 1);
        throwRow(x, 1, 1, 3, 3, 1);
        throwRow(Help.made(2, 1, 2, false), 0, 1, 2, 1);
        throwRow(Help.made(1, 1, 4, false), 1, 1, 1, 1, 1);
        due("throwsOf(2, 0)", x.throwsOf(2, 0), -2);
        due("throwsOf(-1, 0)", x.throwsOf(-1, 0), -2);
    }

    private static void holdsRow(DiceCups x, int g, int h, int... want) {
        for (int bid = 0; bid < want.length; bid++) {
            due("holds(" + g + ", " + h + ", " + bid + ")", x.holds(g, h, bid), want[bid]);
        }
        due("holds with bid -1", x.holds(g, h, -1), -2);
        due("holds behind the greatest", x.holds(g, h, want.length), -2);
    }

    private static void holds() {
        DiceCups x = Help.made(2, 2, 2, false);
        // Hands 0 1 and 1 1: a 0, three of 1.
        holdsRow(x, 1, 2, 1, 1, 0, 1, 0, 1, 0, 0);
        holdsRow(x, 2, 1, 1, 1, 0, 1, 0, 1, 0, 0);
        holdsRow(x, 0, 0, 1, 0, 1, 0, 1, 0, 1, 0);
        x = Help.made(2, 2, 2, true);
        holdsRow(x, 1, 2, 1, 1, 0, 1, 0, 1, 0, 1);
        holdsRow(x, 0, 0, 1, 1, 1, 1, 1, 1, 1, 1);
        x = Help.made(1, 1, 3, true);
        holdsRow(x, 0, 2, 1, 1, 1, 0, 0, 1);
        holdsRow(x, 1, 2, 0, 1, 1, 0, 0, 0);
        x = Help.made(1, 3, 2, false);
        holdsRow(x, 1, 1, 1, 1, 1, 1, 0, 0, 0, 0);
        due("hand 2 of 1 die", x.holds(2, 0, 0), -2);
        due("hand 4 of 3 dice", x.holds(0, 4, 0), -2);
        due("hand 3 of 3 dice", x.holds(0, 3, 5), 1);
        due("hand -1", x.holds(-1, 0, 0), -2);
        due("hand -1 of player 1", x.holds(0, -1, 0), -2);
        due("bid HIGH", x.holds(0, 0, HIGH), -2);
        due("bid LOW", x.holds(0, 0, LOW), -2);
    }

    private static void chanceDue(DiceCups x, int player, int h, int bid, int above, int below) {
        String call = "chance(" + player + ", " + h + ", " + bid + ")";
        due(call + " above", x.chance(player, h, bid, 0), above);
        due(call + " below", x.chance(player, h, bid, 1), below);
    }

    private static void chance() {
        DiceCups x = Help.made(1, 3, 2, false);
        chanceDue(x, 0, 0, 0, 1, 1);
        chanceDue(x, 0, 0, 1, 7, 8);
        chanceDue(x, 0, 0, 2, 7, 8);
        chanceDue(x, 0, 0, 3, 1, 2);
        chanceDue(x, 0, 0, 4, 1, 2);
        chanceDue(x, 0, 0, 5, 1, 8);
        chanceDue(x, 0, 0, 7, 0, 1);
        chanceDue(x, 1, 1, 3, 1, 2);
        chanceDue(x, 1, 1, 2, 1, 1);
        chanceDue(x, 1, 1, 5, 0, 1);
        x = Help.made(2, 2, 2, false);
        chanceDue(x, 0, 1, 3, 3, 4);
        chanceDue(x, 0, 1, 5, 1, 4);
        x = Help.made(1, 1, 4, true);
        chanceDue(x, 0, 1, 2, 1, 2);
        chanceDue(x, 0, 1, 0, 1, 4);
        chanceDue(x, 1, 0, 6, 1, 2);
        due("chance player 2", x.chance(2, 0, 0, 0), -2);
        due("chance player -1", x.chance(-1, 0, 0, 0), -2);
        due("chance hand 4", x.chance(0, 4, 0, 0), -2);
        due("chance hand -1", x.chance(1, -1, 0, 0), -2);
        due("chance bid 8", x.chance(0, 0, 8, 0), -2);
        due("chance bid -1", x.chance(0, 0, -1, 0), -2);
        due("chance what 2", x.chance(0, 0, 0, 2), -2);
        due("chance what -1", x.chance(0, 0, 0, -1), -2);
    }

    private static void surest() {
        DiceCups x = Help.made(1, 3, 2, false);
        // With a 0, of bids 0 to 7: 8, 7, 7, 4, 4, 1, 1, 0 of 8 throws.
        due("surest 1/8", x.surest(0, 0, 1, 8), 6);
        due("surest 1/100", x.surest(0, 0, 1, 100), 6);
        due("surest 2/15", x.surest(0, 0, 2, 15), 4);
        due("surest 1/2", x.surest(0, 0, 1, 2), 4);
        due("surest 51/100", x.surest(0, 0, 51, 100), 2);
        due("surest 7/8", x.surest(0, 0, 7, 8), 2);
        due("surest 88/100", x.surest(0, 0, 88, 100), 0);
        due("surest 1/1", x.surest(0, 0, 1, 1), 0);
        due("surest 100/100", x.surest(0, 1, 100, 100), 1);
        due("surest 100/99", x.surest(0, 1, 100, 99), -1);
        due("surest for player 1", x.surest(1, 3, 1, 1), 5);
        due("surest a 0", x.surest(0, 0, 0, 1), -2);
        due("surest a 101", x.surest(0, 0, 101, 1), -2);
        due("surest b 0", x.surest(0, 0, 1, 0), -2);
        due("surest b 101", x.surest(0, 0, 1, 101), -2);
        due("surest b LOW", x.surest(0, 0, 1, LOW), -2);
        due("surest hand 2", x.surest(0, 2, 1, 1), -2);
        due("surest hand -1", x.surest(0, -1, 1, 1), -2);
        due("surest player 2", x.surest(2, 0, 1, 1), -2);
    }

    private static void weigh() {
        DiceCups x = Help.made(1, 3, 2, false);
        int w = 0;
        for (int round = 0; round < 2; round++) {
            for (int plan = 0; plan < 4; plan++) {
                for (int last = -1; last < 8; last++) {
                    int was = round == 0 ? 1 : w % 21;
                    due("weigh", x.weigh(plan, 1, plan, last, last == 7 ? -1 : 7, w % 21), was);
                    w++;
                }
            }
            w = 0;
        }
        due("weight 20", x.weigh(0, 0, 0, 0, -1, 20), 1);
        due("weight 0", x.weigh(0, 0, 0, 0, -1, 0), 20);
        due("as it was told", x.weigh(0, 0, 0, 0, -1, 3), 0);
        due("next move", x.weigh(0, 0, 0, 0, 1, 1), 1);
        due("player 1 and no last bid", x.weigh(0, 1, 3, -1, 0, 4), 1);
        due("player 1 and no last bid again", x.weigh(0, 1, 3, -1, 0, 4), 4);
    }

    private static void weighIsKeptByDice() {
        DiceCups x = Help.made(1, 1, 4, false);
        x.weigh(1, 0, 3, 2, 5, 11);
        due("the other player with as many dice", x.weigh(1, 1, 3, 2, 5, 12), 11);
        due("and back", x.weigh(1, 0, 3, 2, 5, 1), 12);
        due("another plan", x.weigh(2, 0, 3, 2, 5, 1), 1);
        due("another hand", x.weigh(1, 0, 2, 2, 5, 1), 1);
        x = Help.made(2, 1, 2, false);
        x.weigh(1, 0, 1, 2, 5, 11);
        due("the other player with fewer dice", x.weigh(1, 1, 1, 2, 5, 12), 1);
        due("the weight of 2 dice stays", x.weigh(1, 0, 1, 2, 5, 12), 11);
    }

    private static void weighBad() {
        DiceCups x = Help.made(2, 1, 2, false);
        due("plan -1", x.weigh(-1, 0, 0, -1, 0, 2), -2);
        due("plan 4", x.weigh(4, 0, 0, -1, 0, 2), -2);
        due("player -1", x.weigh(0, -1, 0, -1, 0, 2), -2);
        due("player 2", x.weigh(0, 2, 0, -1, 0, 2), -2);
        due("hand -1", x.weigh(0, 0, -1, -1, 0, 2), -2);
        due("hand 3 of 2 dice", x.weigh(0, 0, 3, -1, 0, 2), -2);
        due("hand 2 of 1 die", x.weigh(0, 1, 2, 0, 1, 2), -2);
        due("last -2", x.weigh(0, 0, 0, -2, 0, 2), -2);
        due("last 6", x.weigh(0, 0, 0, 6, 7, 2), -2);
        due("last 6, CALL", x.weigh(0, 0, 0, 6, -1, 2), -2);
        due("last HIGH, CALL", x.weigh(0, 0, 0, HIGH, -1, 2), -2);
        due("move -2", x.weigh(0, 0, 0, 0, -2, 2), -2);
        due("move 6", x.weigh(0, 0, 0, 0, 6, 2), -2);
        due("move HIGH", x.weigh(0, 0, 0, 0, HIGH, 2), -2);
        due("CALL as the first", x.weigh(0, 0, 0, -1, -1, 2), -2);
        due("a bid like the last", x.weigh(0, 0, 0, 3, 3, 2), -2);
        due("a bid below the last", x.weigh(0, 0, 0, 3, 2, 2), -2);
        due("behind the greatest", x.weigh(0, 0, 0, 5, 5, 2), -2);
        due("w -1", x.weigh(0, 0, 0, -1, 0, -1), -2);
        due("w 21", x.weigh(0, 0, 0, -1, 0, 21), -2);
        due("w HIGH", x.weigh(0, 0, 0, -1, 0, HIGH), -2);
        for (int last = -1; last < 6; last++) {
            due("no wrong weight stays", x.weigh(0, 0, 0, last, last == 5 ? -1 : last + 1, 1), 1);
        }
    }

    private static void worth() {
        DiceCups x = new DiceCups();
        due("worth of like weights", x.worth(0, 1), Help.bits(0.5));
        for (int h = 0; h < 2; h++) {
            Help.only(x, 0, 0, h, -1, 9);
            Help.only(x, 1, 1, h, 0, 9);
        }
        // No weight is left, so bid 0 comes first and then CALL; it holds in 3 of 4 throws.
        due("worth of no weights", x.worth(0, 1), Help.bits(0.75));
        Help.only(x, 1, 1, 0, 0, 1);
        Help.only(x, 1, 1, 1, 0, 1);
        Help.only(x, 0, 0, 0, 1, -1);
        Help.only(x, 0, 0, 1, 1, -1);
        // Player 1 goes on to bid 1, which fails in 1 of 4.
        due("worth where player 0 calls", x.worth(0, 1), Help.bits(0.25));
        Help.only(x, 0, 0, 0, -1, 3);
        Help.only(x, 0, 0, 1, -1, 3);
        due("worth behind the greatest bid", x.worth(0, 2), Help.bits(0.25));
        x = Help.made(1, 3, 2, false);
        for (int h = 0; h < 2; h++) {
            Help.only(x, 2, 0, h, -1, 5);
        }
        for (int h = 0; h < 4; h++) {
            Help.only(x, 3, 1, h, 5, -1);
        }
        // Three of 1 among four dice: 5 of 16 throws.
        due("worth by throws", x.worth(2, 3), Help.bits(5.0 / 16.0));
        due("worth(-1, 0)", x.worth(-1, 0), -1);
        due("worth(4, 0)", x.worth(4, 0), -1);
        due("worth(0, -1)", x.worth(0, -1), -1);
        due("worth(0, 4)", x.worth(0, 4), -1);
        due("worth(HIGH, LOW)", x.worth(HIGH, LOW), -1);
    }

    private static void worthOfWeights() {
        DiceCups x = new DiceCups();
        for (int h = 0; h < 2; h++) {
            Help.only(x, 0, 0, h, -1, 3);
            Help.only(x, 1, 1, h, 3, -1);
        }
        x.weigh(0, 0, 1, -1, 2, 3);
        x.weigh(0, 0, 1, -1, 3, 20);
        Help.only(x, 1, 1, 0, 2, -1);
        Help.only(x, 1, 1, 1, 2, -1);
        // Hand 0 bids two of 1, which fails; hand 1 bids it by 20 in 23, else two of 0.
        double e = 0.0 + 3.0 / 23.0 * 0.0;
        double want = (e + 20.0 / 23.0 * 1.0) / 4.0;
        due("worth of 20 in 23", x.worth(0, 1), Help.bits(want));
        x.weigh(1, 1, 1, 2, 3, 2);
        x.weigh(0, 0, 0, 3, -1, 0);
        due("worth of a bid behind a bid", x.worth(0, 1),
            Help.bits((0.0 + 3.0 / 23.0 * (0.0 + 7.0 / 9.0 * 0.0 + 2.0 / 9.0 * 0.0)
                + 20.0 / 23.0 * 1.0) / 4.0));
    }

    private static void worthThatIsSmall() {
        DiceCups x = new DiceCups();
        for (int h = 0; h < 2; h++) {
            Help.only(x, 0, 0, h, -1, 3);
            Help.only(x, 2, 0, h, -1, 2);
            Help.only(x, 1, 1, h, 3, -1);
            Help.only(x, 1, 1, h, 2, -1);
        }
        x.weigh(0, 0, 1, -1, 3, 1);
        x.weigh(0, 0, 1, -1, 2, 20);
        // Two of 1 is bid by hand 1 in 1 of 21, and holds in 1 of 2.
        due("worth of 1 in 21", x.worth(0, 1), Help.bits(1.0 / 21.0 / 4.0));
        x = Help.made(1, 3, 2, false);
        for (int h = 0; h < 2; h++) {
            Help.only(x, 0, 0, h, -1, 7);
        }
        due("worth of what holds in 1 of 16", x.worth(0, 1), Help.bits(0.0625));
        Help.only(x, 0, 0, 1, -1, 6);
        for (int h = 0; h < 4; h++) {
            Help.only(x, 1, 1, h, 6, -1);
        }
        due("worth of what never holds", x.worth(0, 1), 0L);
    }

    private static void answer() {
        DiceCups x = new DiceCups();
        for (int h = 0; h < 2; h++) {
            for (int last = 0; last < 4; last++) {
                Help.only(x, 1, 1, h, last, -1);
            }
            Help.only(x, 2, 0, h, -1, 0);
        }
        // Who is always called bids what the own die makes sure.
        due("answer to CALL", x.answer(0, 1), Help.bits(1.0));
        Help.only(x, 2, 0, 0, 1, -1);
        Help.only(x, 2, 0, 1, 1, -1);
        Help.only(x, 2, 0, 0, 2, -1);
        Help.only(x, 2, 0, 1, 2, -1);
        // Behind bid 0: hand 0 wins 1 of 2 by bid 1, hand 1 wins each time by bid 1.
        due("answer to bid 0", x.answer(1, 2), Help.bits(0.75));
        due("answer(-1, 0)", x.answer(-1, 0), -1);
        due("answer(2, 0)", x.answer(2, 0), -1);
        due("answer(0, -1)", x.answer(0, -1), -1);
        due("answer(1, 4)", x.answer(1, 4), -1);
        due("answer(HIGH, HIGH)", x.answer(HIGH, HIGH), -1);
        x = Help.made(1, 3, 2, true);
        for (int h = 0; h < 2; h++) {
            Help.only(x, 0, 0, h, -1, 7);
        }
        // Four of 1, nothing but CALL behind: it holds by wild 0, so CALL never wins.
        due("answer to what always holds", x.answer(1, 0), Help.bits(0.0));
        x.cups(1, 3, 2, false);
        for (int h = 0; h < 2; h++) {
            Help.only(x, 0, 0, h, -1, 7);
        }
        due("answer to what holds in 1 of 16", x.answer(1, 0), Help.bits(15.0 / 16.0));
    }

    private static void answerToWeights() {
        DiceCups x = new DiceCups();
        for (int h = 0; h < 2; h++) {
            Help.only(x, 0, 0, h, -1, 3);
        }
        x.weigh(0, 0, 1, -1, 2, 3);
        x.weigh(0, 0, 1, -1, 3, 20);
        // Bid 3 is made by 1.0 of hand 0 and 20 in 23 of hand 1, bid 2 by 3 in 23 of hand 1.
        double bid2 = 1.0 * (3.0 / 23.0);
        double bid3 = 1.0 * (20.0 / 23.0);
        double v0 = 0.0 + bid2 + (0.0 + 1.0 + bid3);
        double v1 = 0.0 + bid2 + (0.0 + 1.0);
        due("answer to weights", x.answer(1, 0), Help.bits((0.0 + 1.0 * v0 + 1.0 * v1) / 4.0));
    }

    private static void opening() {
        DiceCups x = new DiceCups();
        for (int h = 0; h < 2; h++) {
            for (int last = 0; last < 4; last++) {
                Help.only(x, 1, 1, h, last, -1);
            }
        }
        due("opening with a 0", x.opening(1, 0), 0);
        due("opening with a 1", x.opening(1, 1), 1);
        x = Help.made(2, 2, 2, true);
        for (int h = 0; h < 3; h++) {
            for (int last = 0; last < 8; last++) {
                Help.only(x, 3, 1, h, last, -1);
            }
        }
        due("the first of like ones", x.opening(3, 0), 0);
        due("the first of like ones with 0 1", x.opening(3, 1), 0);
        due("the first that is sure", x.opening(3, 2), 1);
        due("opening(-1, 0)", x.opening(-1, 0), -100);
        due("opening(4, 0)", x.opening(4, 0), -100);
        due("opening hand -1", x.opening(0, -1), -100);
        due("opening hand 3", x.opening(0, 3), -100);
        x = Help.made(1, 3, 2, true);
        due("opening hand 2 of 1 die", x.opening(0, 2), -100);
        x = Help.made(3, 1, 2, true);
        CHECKS.sure("opening hand 3 of 3 dice", x.opening(0, 3) >= 0);
        due("opening hand HIGH", x.opening(0, HIGH), -100);
    }

    private static void reply() {
        DiceCups x = new DiceCups();
        for (int h = 0; h < 2; h++) {
            Help.only(x, 2, 0, h, -1, 0);
            Help.only(x, 2, 0, h, 1, -1);
            Help.only(x, 2, 0, h, 2, -1);
        }
        due("reply with a 0", x.reply(2, 0, 0), 1);
        due("reply with a 1", x.reply(2, 1, 0), 1);
        due("reply to what is never bid", x.reply(2, 0, 1), -1);
        due("reply to the greatest that is never bid", x.reply(2, 1, 3), -1);
        Help.only(x, 2, 0, 0, -1, 1);
        due("reply to a bid of hand 1 alone", x.reply(2, 0, 0), 1);
        Help.only(x, 2, 0, 0, -1, 3);
        Help.only(x, 2, 0, 1, -1, 3);
        due("reply to the greatest", x.reply(2, 0, 3), -1);
        due("reply CALL of like ones", x.reply(2, 1, 3), -1);
        due("reply bid -1", x.reply(2, 0, -1), -100);
        due("reply bid 4", x.reply(2, 0, 4), -100);
        due("reply bid HIGH", x.reply(2, 0, HIGH), -100);
        due("reply hand -1", x.reply(2, -1, 0), -100);
        due("reply hand 2", x.reply(2, 2, 0), -100);
        due("reply plan -1", x.reply(-1, 0, 0), -100);
        due("reply plan 4", x.reply(4, 0, 0), -100);
        x = Help.made(1, 3, 2, false);
        due("reply hand 3 of 3 dice", x.reply(0, 3, 0) >= -1 ? 1 : 0, 1);
        due("reply hand 4 of 3 dice", x.reply(0, 4, 0), -100);
        x = Help.made(3, 1, 2, false);
        due("reply hand 2 of 1 die", x.reply(0, 2, 0), -100);
    }

    private static void round() {
        int[] seeds = {0, 1, 2, 7, 203, 65535, 65536, 123456789, HIGH - 1, HIGH};
        DiceCups one = Help.made(1, 1, 4, false);
        DiceCups more = Help.made(1, 3, 2, true);
        for (int seed : seeds) {
            int[] pips = Help.drawn(seed, 2, 4);
            due("round(" + seed + ")", one.round(seed), pips[0]);
            due("held(0)", one.held(0), pips[0]);
            due("held(1)", one.held(1), pips[1]);
            pips = Help.drawn(seed, 4, 2);
            due("round(" + seed + ") of 1 and 3", more.round(seed), pips[0]);
            // A hand of dice with two pips is numbered by how many of them have 1.
            due("held(1) of 3", more.held(1), pips[1] + pips[2] + pips[3]);
        }
        due("round(0)", one.round(0), 0);
        more.move(3);
        due("round(-1)", more.round(-1), -2);
        due("round(LOW)", more.round(LOW), -2);
        rowDue("refused rounds leave it", Help.abouts(more), 1, 3, 1, -1);
        more.round(5);
        rowDue("a round that was goes", Help.abouts(more), 0, -1, 0, -1);
        due("nobody won it", more.count(5) + more.count(6), 0);
    }

    private static void held() {
        DiceCups x = new DiceCups();
        due("held(0) of none", x.held(0), -3);
        due("held(2) of none", x.held(2), -2);
        due("held(-1) of none", x.held(-1), -2);
        x.round(2);
        int first = x.held(0);
        int second = x.held(1);
        x.move(0);
        x.move(-1);
        due("held(0) of one that is over", x.held(0), first);
        due("held(1) of one that is over", x.held(1), second);
        due("held(2)", x.held(2), -2);
        due("held(HIGH)", x.held(HIGH), -2);
    }

    private static void moves() {
        DiceCups x = new DiceCups();
        x.round(7);
        // Both have 0.
        due("bid 1", x.move(1), 0);
        due("bid 3", x.move(3), 0);
        due("player 0 calls what fails", x.move(-1), 1);
        x.round(7);
        due("bid 1", x.move(1), 0);
        due("bid 2", x.move(2), 0);
        due("player 0 calls what holds", x.move(-1), 2);
        x.round(7);
        due("bid 0", x.move(0), 0);
        due("player 1 calls what holds", x.move(-1), 1);
        x.round(7);
        due("bid 1", x.move(1), 0);
        due("player 1 calls what fails", x.move(-1), 2);
        due("won by 0", x.count(5), 2);
        due("won by 1", x.count(6), 2);
        x.cups(2, 2, 2, true);
        x.round(3);
        for (int bid = 0; bid < 8; bid++) {
            due("every bid", x.move(bid), 0);
        }
        rowDue("behind them all", Help.abouts(x), 0, 7, 8, -1);
    }

    private static void movesRefused() {
        DiceCups x = new DiceCups();
        due("bid in no round", x.move(0), -3);
        due("CALL in no round", x.move(-1), -3);
        due("no bid in no round", x.move(4), -2);
        due("-2 in no round", x.move(-2), -2);
        x.round(7);
        due("CALL as the first", x.move(-1), -3);
        due("bid 4", x.move(4), -2);
        due("bid HIGH", x.move(HIGH), -2);
        due("bid LOW", x.move(LOW), -2);
        rowDue("nothing was done", Help.abouts(x), 0, -1, 0, -1);
        x.move(2);
        due("a bid like the last", x.move(2), -3);
        due("a bid below the last", x.move(0), -3);
        rowDue("one bid was made", Help.abouts(x), 1, 2, 1, -1);
        x.move(-1);
        due("a bid when it is over", x.move(3), -3);
        due("CALL when it is over", x.move(-1), -3);
        due("no bid when it is over", x.move(4), -2);
        due("one round won", x.count(5) + x.count(6), 1);
    }

    private static void about() {
        DiceCups x = new DiceCups();
        due("about(0) of none", x.about(0), -3);
        due("about(3) of none", x.about(3), -3);
        due("about(4) of none", x.about(4), -2);
        due("about(-1) of none", x.about(-1), -2);
        x.round(7);
        rowDue("at first", Help.abouts(x), 0, -1, 0, -1);
        x.move(1);
        rowDue("behind a bid", Help.abouts(x), 1, 1, 1, -1);
        x.move(3);
        rowDue("behind two", Help.abouts(x), 0, 3, 2, -1);
        x.move(-1);
        rowDue("when it is over", Help.abouts(x), -1, 3, 2, 0);
        x.round(7);
        x.move(3);
        x.move(-1);
        rowDue("when 1 won", Help.abouts(x), -1, 3, 1, 1);
        due("about(4)", x.about(4), -2);
        due("about(HIGH)", x.about(HIGH), -2);
        due("about(LOW)", x.about(LOW), -2);
    }

    private static void count() {
        DiceCups x = Help.made(2, 1, 2, true);
        rowDue("counts", Help.counts(x), 2, 1, 2, 1, 6, 0, 0);
        x.cups(1, 1, 4, false);
        rowDue("counts of four pips", Help.counts(x), 1, 1, 4, 0, 8, 0, 0);
        x.cups(1, 1, 2, false);
        for (int i = 0; i < 3; i++) {
            x.round(7);
            x.move(i == 0 ? 0 : 3);
            x.move(-1);
        }
        rowDue("counts behind rounds", Help.counts(x), 1, 1, 2, 0, 4, 1, 2);
        due("count(7)", x.count(7), -2);
        due("count(-1)", x.count(-1), -2);
        due("count(HIGH)", x.count(HIGH), -2);
        due("count(LOW)", x.count(LOW), -2);
    }

    private static void digest() {
        DiceCups x = new DiceCups();
        long ones = 191L;
        for (int v : new int[] {1, 1, 2, 0, 4, 0, 0}) {
            ones = 31L * ones + v;
        }
        // Four plans, two players, two hands; 4 moves at first, then 4, 3, 2 and 1.
        for (int i = 0; i < 4 * 2 * 2 * 14; i++) {
            ones = 31L * ones + 1L;
        }
        due("digest of a new object", x.digest(), ones);
        int[][] all = {{1, 1, 2}, {1, 1, 3}, {1, 1, 4}, {1, 2, 2}, {2, 1, 2}, {2, 2, 2},
            {1, 3, 2}, {3, 1, 2}};
        Model model = new Model();
        for (int[] cups : all) {
            x.cups(cups[0], cups[1], cups[2], cups[0] == 1);
            model.cups(cups[0], cups[1], cups[2], cups[0] == 1);
            due("digest of cups", x.digest(), model.digest());
            x.weigh(3, 1, 1, 4, -1, 17);
            model.weigh(3, 1, 1, 4, -1, 17);
            x.weigh(0, 0, 0, -1, 2, 0);
            model.weigh(0, 0, 0, -1, 2, 0);
            due("digest of weights", x.digest(), model.digest());
            x.round(cups[2] * 1000 + cups[0]);
            model.round(cups[2] * 1000 + cups[0]);
            due("digest of a round", x.digest(), model.digest());
            x.move(3);
            model.move(3);
            due("digest behind a bid", x.digest(), model.digest());
            x.move(-1);
            model.move(-1);
            due("digest behind CALL", x.digest(), model.digest());
        }
    }

    private static void refusedCallsChangeNothing() {
        DiceCups x = Help.made(1, 2, 2, true);
        x.weigh(1, 0, 1, 2, 3, 6);
        x.round(11);
        x.move(2);
        long before = x.digest();
        x.cups(3, 2, 2, false);
        x.cups(1, 1, 5, false);
        x.weigh(1, 0, 1, 2, 2, 9);
        x.weigh(1, 0, 1, 2, 3, 21);
        x.round(-7);
        x.move(1);
        x.move(6);
        x.worth(0, 4);
        x.answer(2, 0);
        x.opening(0, 9);
        x.reply(0, 0, 6);
        due("digest behind refused calls", x.digest(), before);
        x.worth(0, 1);
        x.answer(0, 1);
        x.answer(1, 1);
        x.opening(1, 0);
        x.reply(1, 0, 2);
        x.surest(0, 0, 1, 2);
        x.chance(0, 0, 0, 0);
        due("digest behind questions", x.digest(), before);
    }
}
