/** Each boundary that 'Terms' of the document names has a test of its own here. */
public final class TermsTest {
    private static final int LOW = Help.LOW;
    private static final int HIGH = Help.HIGH;
    private static final int CALL = Help.CALL;
    private static final int NONE = Help.NONE;
    private static final int BAD = Help.BAD;
    private static final int NO = Help.NO;
    private static final Checks CHECKS = new Checks("TermsTest");

    public static void main(String[] args) {
        Named.run(TermsTest.class, CHECKS);
    }

    private static void due(String call, long got, long want) {
        CHECKS.due(call, got, want);
    }

    private static void cupsDue(int d0, int d1, int faces, int want) {
        DiceCups x = new DiceCups();
        String call = "cups(" + d0 + ", " + d1 + ", " + faces + ")";
        due(call + " not wild", x.cups(d0, d1, faces, false), want);
        due(call + " wild", x.cups(d0, d1, faces, true), want);
    }

    // ======== 1 CUPS: how many dice and pips

    static void terms1NoDieIsTooFew() {
        cupsDue(0, 1, 2, BAD);
        cupsDue(1, 0, 2, BAD);
        cupsDue(0, 3, 2, BAD);
        cupsDue(3, 0, 2, BAD);
        cupsDue(0, 0, 2, BAD);
        cupsDue(0, 4, 2, BAD);
        cupsDue(4, 0, 2, BAD);
    }

    static void terms1DiceBelowZeroAreTooFew() {
        cupsDue(-1, 3, 2, BAD);
        cupsDue(3, -1, 2, BAD);
        cupsDue(-1, -1, 2, BAD);
        cupsDue(LOW, 1, 2, BAD);
        cupsDue(1, LOW, 2, BAD);
    }

    static void terms1OneDieEachMayBe() {
        cupsDue(1, 1, 2, 4);
    }

    static void terms1ThreeDiceMayBe() {
        cupsDue(3, 1, 2, 8);
        cupsDue(1, 3, 2, 8);
    }

    static void terms1FourDiceAreTooMany() {
        cupsDue(4, 1, 2, BAD);
        cupsDue(1, 4, 2, BAD);
        cupsDue(4, -1, 2, BAD);
        cupsDue(-1, 4, 2, BAD);
        cupsDue(4, 4, 2, BAD);
    }

    static void terms1OnePipIsTooFew() {
        cupsDue(1, 1, 1, BAD);
        cupsDue(3, 3, 1, BAD);
    }

    static void terms1NoPipsAndFewerAreTooFew() {
        cupsDue(1, 1, 0, BAD);
        cupsDue(3, 3, 0, BAD);
        cupsDue(1, 1, -1, BAD);
        cupsDue(1, 1, LOW, BAD);
    }

    static void terms1TwoToFourPipsMayBe() {
        cupsDue(1, 1, 2, 4);
        cupsDue(1, 1, 3, 6);
        cupsDue(1, 1, 4, 8);
    }

    static void terms1FivePipsAreTooMany() {
        cupsDue(1, 1, 5, BAD);
        cupsDue(1, 1, HIGH, BAD);
    }

    static void terms1EightBidsMayBe() {
        cupsDue(1, 1, 4, 8);
        cupsDue(2, 2, 2, 8);
        cupsDue(1, 3, 2, 8);
        cupsDue(3, 1, 2, 8);
    }

    static void terms1NineBidsAreTooMany() {
        cupsDue(1, 2, 3, BAD);
        cupsDue(2, 1, 3, BAD);
    }

    static void terms1MoreThanNineBidsAreTooMany() {
        cupsDue(2, 3, 2, BAD);
        cupsDue(3, 2, 2, BAD);
        cupsDue(3, 3, 2, BAD);
        cupsDue(1, 2, 4, BAD);
        cupsDue(2, 1, 4, BAD);
        cupsDue(2, 2, 3, BAD);
        cupsDue(3, 3, 4, BAD);
    }

    static void terms1NumbersWhoseProductWrapsAreRefused() {
        cupsDue(1, 1, 1 << 30, BAD);
        cupsDue(2, 2, 1 << 30, BAD);
        cupsDue(3, 1, 1 << 30, BAD);
        cupsDue(1 << 30, 1 << 30, 2, BAD);
        cupsDue(1 << 30, 1 << 30, 4, BAD);
        cupsDue(HIGH, 1, 2, BAD);
        cupsDue(1, HIGH, 4, BAD);
        cupsDue(HIGH, HIGH, HIGH, BAD);
        cupsDue(LOW, LOW, LOW, BAD);
    }

    static void terms1PlayersAreTwo() {
        DiceCups x = Help.made(2, 2, 2, false);
        for (int player : new int[] {LOW, -1, 2, 3, HIGH}) {
            String who = " of player " + player;
            due("hands" + who, x.hands(player), BAD);
            due("hand" + who, x.hand(player, 0, 0), -100);
            due("throwsOf" + who, x.throwsOf(player, 0), BAD);
            due("chance" + who, x.chance(player, 0, 0, 0), BAD);
            due("surest" + who, x.surest(player, 0, 1, 1), BAD);
            due("weigh" + who, x.weigh(0, player, 0, NONE, 0, 1), BAD);
            due("answer" + who, x.answer(player, 0), -1);
            due("held" + who, x.held(player), BAD);
        }
    }

    // ======== 1 CUPS: hands and throws

    static void terms1TheFirstHandIsAllZeroes() {
        for (int[] cups : Help.ALL_CUPS) {
            DiceCups x = Help.made(cups[0], cups[1], cups[2], false);
            due("hand(0, 0, 0)", x.hand(0, 0, 0), cups[0]);
            due("hand(1, 0, 0)", x.hand(1, 0, 0), cups[1]);
        }
    }

    static void terms1TheLastHandIsAllGreatestPips() {
        for (int[] cups : Help.ALL_CUPS) {
            DiceCups x = Help.made(cups[0], cups[1], cups[2], true);
            int greatest = cups[2] - 1;
            due("last of 0", x.hand(0, x.hands(0) - 1, greatest), cups[0]);
            due("last of 1", x.hand(1, x.hands(1) - 1, greatest), cups[1]);
        }
    }

    static void terms1HandsStandInOrderAsRowsOfNumbers() {
        DiceCups x = Help.made(3, 1, 2, false);
        // 0 0 0, 0 0 1, 0 1 1, 1 1 1.
        for (int h = 0; h < 4; h++) {
            due("zeroes of hand " + h, x.hand(0, h, 0), 3 - h);
            due("ones of hand " + h, x.hand(0, h, 1), h);
        }
        x.cups(1, 2, 2, false);
        // 0 0, 0 1, 1 1.
        for (int h = 0; h < 3; h++) {
            due("zeroes of hand " + h, x.hand(1, h, 0), 2 - h);
            due("ones of hand " + h, x.hand(1, h, 1), h);
        }
        x.cups(1, 1, 4, false);
        for (int h = 0; h < 4; h++) {
            for (int face = 0; face < 4; face++) {
                due("hand(0, " + h + ", " + face + ")", x.hand(0, h, face), h == face ? 1 : 0);
            }
        }
    }

    static void terms1RowsThatFallAreNoHands() {
        due("hands of 1 of 2", Help.made(1, 1, 2, false).hands(0), 2);
        due("hands of 1 of 3", Help.made(1, 1, 3, false).hands(0), 3);
        due("hands of 1 of 4", Help.made(1, 1, 4, false).hands(0), 4);
        due("hands of 2 of 2, not 4", Help.made(2, 1, 2, false).hands(0), 3);
        due("hands of 3 of 2, not 8", Help.made(1, 3, 2, false).hands(1), 4);
    }

    static void terms1LikeDiceHaveOneThrow() {
        for (int[] cups : Help.ALL_CUPS) {
            DiceCups x = Help.made(cups[0], cups[1], cups[2], false);
            due("first of 0", x.throwsOf(0, 0), 1);
            due("last of 0", x.throwsOf(0, x.hands(0) - 1), 1);
            due("first of 1", x.throwsOf(1, 0), 1);
            due("last of 1", x.throwsOf(1, x.hands(1) - 1), 1);
        }
    }

    static void terms1MixedDiceHaveAThrowForEachOrder() {
        DiceCups x = Help.made(2, 2, 2, false);
        due("0 1", x.throwsOf(0, 1), 2);
        due("0 1 of player 1", x.throwsOf(1, 1), 2);
        x.cups(1, 3, 2, false);
        due("0 0 1", x.throwsOf(1, 1), 3);
        due("0 1 1", x.throwsOf(1, 2), 3);
    }

    // ======== 1 CUPS: bids

    static void terms1NoBidIsBelowZero() {
        for (int[] cups : Help.ALL_CUPS) {
            bidDue(Help.made(cups[0], cups[1], cups[2], false), -1, false);
        }
    }

    static void terms1BidZeroIsOne() {
        for (int[] cups : Help.ALL_CUPS) {
            bidDue(Help.made(cups[0], cups[1], cups[2], true), 0, true);
        }
    }

    static void terms1TheGreatestBidIsOneLessThanDiceTimesPips() {
        for (int[] cups : Help.ALL_CUPS) {
            bidDue(Help.made(cups[0], cups[1], cups[2], false), cups[3] - 1, true);
        }
    }

    static void terms1BehindTheGreatestBidIsNone() {
        for (int[] cups : Help.ALL_CUPS) {
            bidDue(Help.made(cups[0], cups[1], cups[2], true), cups[3], false);
        }
    }

    private static void bidDue(DiceCups x, int bid, boolean isOne) {
        CHECKS.sure("holds takes " + bid, (x.holds(0, 0, bid) != BAD) == isOne);
        CHECKS.sure("chance takes " + bid, (x.chance(0, 0, bid, 0) != BAD) == isOne);
        CHECKS.sure("reply takes " + bid, (x.reply(0, 0, bid) != -100) == isOne);
        CHECKS.sure("weigh takes " + bid, (x.weigh(0, 0, 0, NONE, bid, 1) != BAD) == isOne);
        if (bid != CALL) {
            CHECKS.sure("weigh behind " + bid, (x.weigh(0, 0, 0, bid, CALL, 1) != BAD) == isOne);
            x.round(0);
            due("move(" + bid + ")", x.move(bid), isOne ? 0 : BAD);
        }
    }

    static void terms1ABidBelowThePipsSaysOneDie() {
        DiceCups x = Help.made(1, 1, 4, false);
        for (int bid = 0; bid < 4; bid++) {
            due("one with a " + bid, x.holds(bid, (bid + 1) % 4, bid), 1);
            due("none with a " + bid, x.holds((bid + 2) % 4, (bid + 1) % 4, bid), 0);
        }
    }

    static void terms1TheBidLikeThePipsSaysTwoZeroes() {
        for (int[] cups : Help.ALL_CUPS) {
            DiceCups x = Help.made(cups[0], cups[1], cups[2], false);
            int lastOfFirst = x.hands(0) - 1;
            due("all zeroes", x.holds(0, 0, cups[2]), 1);
            due("zeroes of 1 alone", x.holds(lastOfFirst, 0, cups[2]), cups[1] >= 2 ? 1 : 0);
            due("no zeroes", x.holds(lastOfFirst, x.hands(1) - 1, cups[2]), 0);
        }
    }

    static void terms1TheGreatestBidSaysThatAllDiceHaveTheGreatestPip() {
        for (int[] cups : Help.ALL_CUPS) {
            DiceCups x = Help.made(cups[0], cups[1], cups[2], false);
            for (int g = 0; g < x.hands(0); g++) {
                for (int h = 0; h < x.hands(1); h++) {
                    boolean all = g == x.hands(0) - 1 && h == x.hands(1) - 1;
                    due("holds(" + g + ", " + h + ")", x.holds(g, h, cups[3] - 1), all ? 1 : 0);
                }
            }
        }
    }

    static void terms1ABidHoldsWithJustAsManyDice() {
        DiceCups x = Help.made(2, 2, 2, false);
        due("two of 1", x.holds(1, 1, 3), 1);
        due("three of 1", x.holds(1, 2, 5), 1);
        due("three of 0", x.holds(0, 1, 4), 1);
        due("four of 1", x.holds(2, 2, 7), 1);
    }

    static void terms1ABidFailsWithOneDieFewer() {
        DiceCups x = Help.made(2, 2, 2, false);
        due("two of 1", x.holds(0, 1, 3), 0);
        due("three of 1", x.holds(1, 1, 5), 0);
        due("three of 0", x.holds(1, 1, 4), 0);
        due("four of 1", x.holds(1, 2, 7), 0);
    }

    static void terms1ABidHoldsWithMoreDice() {
        DiceCups x = Help.made(2, 2, 2, false);
        due("one of 1 where four are", x.holds(2, 2, 1), 1);
        due("two of 1 where three are", x.holds(1, 2, 3), 1);
        due("three of 0 where four are", x.holds(0, 0, 4), 1);
    }

    static void terms1WildZeroesCountForOtherPips() {
        DiceCups x = Help.made(2, 2, 2, true);
        due("four of 1, all are 0", x.holds(0, 0, 7), 1);
        due("four of 1, two are 0", x.holds(1, 1, 7), 1);
        x.cups(1, 1, 4, true);
        for (int face = 1; face < 4; face++) {
            due("two of " + face, x.holds(0, face, 4 + face), 1);
            due("two of " + face + " turned", x.holds(face, 0, 4 + face), 1);
            due("two of " + face + " where both are 0", x.holds(0, 0, 4 + face), 1);
            due("one of " + face, x.holds(face % 3 + 1, 0, face), 1);
        }
    }

    static void terms1OtherPipsDoNotCountForZeroThoughItIsWild() {
        DiceCups x = Help.made(2, 2, 2, true);
        due("one of 0", x.holds(2, 2, 0), 0);
        due("two of 0", x.holds(1, 2, 2), 0);
        due("two of 0 where two are", x.holds(1, 1, 2), 1);
        due("three of 0", x.holds(0, 2, 4), 0);
    }

    static void terms1ZeroesThatAreNotWildCountForZeroAlone() {
        DiceCups x = Help.made(2, 2, 2, false);
        due("four of 1, all are 0", x.holds(0, 0, 7), 0);
        due("one of 1, all are 0", x.holds(0, 0, 1), 0);
        due("two of 1, one is", x.holds(0, 1, 3), 0);
        due("four of 0", x.holds(0, 0, 6), 1);
    }

    static void terms1NoOtherPipIsWild() {
        DiceCups x = Help.made(1, 1, 4, true);
        for (int face = 1; face < 4; face++) {
            int other = face % 3 + 1;
            due("one of " + face, x.holds(other, other, face), 0);
            due("two of " + face, x.holds(face, other, 4 + face), 0);
        }
    }

    static void terms1WildEndsWithTheNextCups() {
        DiceCups x = Help.made(1, 1, 2, true);
        due("wild", x.holds(0, 0, 3), 1);
        x.cups(1, 1, 2, false);
        due("not wild", x.holds(0, 0, 3), 0);
    }

    // ======== 1 CUPS: moves

    /** A round of one die each in which both hold a 0. */
    private static DiceCups inRound(int... bids) {
        DiceCups x = new DiceCups();
        x.round(7);
        for (int bid : bids) {
            due("move(" + bid + ")", x.move(bid), 0);
        }
        return x;
    }

    static void terms1PlayerZeroMovesFirst() {
        DiceCups x = inRound();
        due("first", x.about(0), 0);
        x.move(0);
        due("second", x.about(0), 1);
        x.move(1);
        due("third", x.about(0), 0);
    }

    static void terms1PlayerZeroMovesFirstInTheNextRoundToo() {
        DiceCups x = inRound(0);
        x.round(8);
        due("first", x.about(0), 0);
        x.move(2);
        x.move(CALL);
        x.round(9);
        due("first again", x.about(0), 0);
    }

    static void terms1ABidLikeTheLastMayNotBe() {
        for (int bid = 0; bid < 4; bid++) {
            due("again", inRound(bid).move(bid), NO);
        }
    }

    static void terms1ABidBelowTheLastMayNotBe() {
        due("0 behind 1", inRound(1).move(0), NO);
        due("0 behind 3", inRound(3).move(0), NO);
        due("2 behind 3", inRound(3).move(2), NO);
    }

    static void terms1TheBidNextAboveTheLastMayBe() {
        due("1 behind 0", inRound(0).move(1), 0);
        due("2 behind 1", inRound(1).move(2), 0);
        due("3 behind 2", inRound(2).move(3), 0);
    }

    static void terms1TheGreatestBidMayBeTheFirst() {
        due("3 as the first", inRound().move(3), 0);
    }

    static void terms1TheLeastBidMayBeTheFirst() {
        due("0 as the first", inRound().move(0), 0);
    }

    static void terms1CallMayNotBeTheFirst() {
        DiceCups x = inRound();
        due("CALL as the first", x.move(CALL), NO);
        due("who is to move", x.about(0), 0);
        due("weight of CALL as the first", x.weigh(0, 0, 0, NONE, CALL, 1), BAD);
    }

    static void terms1CallMayBeTheSecond() {
        due("CALL as the second", inRound(0).move(CALL), 1);
        due("weight of CALL", new DiceCups().weigh(0, 0, 0, 0, CALL, 1), 1);
    }

    static void terms1WhoBidWinsWhereTheBidHolds() {
        due("player 0 bid", inRound(2).move(CALL), 1);
        due("player 1 bid", inRound(1, 2).move(CALL), 2);
    }

    static void terms1WhoCalledWinsWhereTheBidFails() {
        due("player 1 called", inRound(3).move(CALL), 2);
        due("player 0 called", inRound(0, 3).move(CALL), 1);
    }

    static void terms1TheLastBidAloneIsLookedAt() {
        due("a bid that fails behind one that holds", inRound(0, 1).move(CALL), 1);
        due("a bid that holds behind one that fails", inRound(1, 2).move(CALL), 2);
    }

    static void terms1CallEndsTheRound() {
        DiceCups x = inRound(0);
        x.move(CALL);
        due("CALL again", x.move(CALL), NO);
        due("a bid above", x.move(3), NO);
    }

    static void terms1BehindTheGreatestBidOnlyCallMayBe() {
        DiceCups x = inRound(3);
        for (int bid = 0; bid < 4; bid++) {
            due("move(" + bid + ")", x.move(bid), NO);
            due("weight of " + bid, x.weigh(0, 1, 0, 3, bid, 1), BAD);
        }
        due("weight of CALL", x.weigh(0, 1, 0, 3, CALL, 1), 1);
        due("CALL", x.move(CALL), 2);
    }

    // ======== 2 PLANS: what they are for

    static void terms2PlansAreFour() {
        DiceCups x = new DiceCups();
        for (int plan : new int[] {LOW, -1, 4, 5, HIGH}) {
            String which = " of plan " + plan;
            due("weigh" + which, x.weigh(plan, 0, 0, NONE, 0, 1), BAD);
            due("worth" + which, x.worth(plan, 0), -1);
            due("worth against" + which, x.worth(0, plan), -1);
            due("answer" + which, x.answer(0, plan), -1);
            due("opening" + which, x.opening(plan, 0), -100);
            due("reply" + which, x.reply(plan, 0, 0), -100);
        }
    }

    static void terms2TheFirstAndTheLastPlanStandApart() {
        DiceCups x = new DiceCups();
        for (int plan = 0; plan < 4; plan++) {
            due("weight of " + plan, x.weigh(plan, 0, 0, NONE, 0, 10 + plan), 1);
        }
        for (int plan = 0; plan < 4; plan++) {
            due("weight of " + plan, x.weigh(plan, 0, 0, NONE, 0, 0), 10 + plan);
        }
    }

    static void terms2APlanOfThreeDiceIsForBothPlayers() {
        for (int player = 0; player < 2; player++) {
            DiceCups x = Help.made(player == 0 ? 3 : 1, player == 0 ? 1 : 3, 2, false);
            for (int h = 0; h < 4; h++) {
                due("weight of hand " + h, x.weigh(3, player, h, 7, CALL, 9), 1);
                due("weight of hand " + h, x.weigh(3, player, h, 7, CALL, 1), 9);
            }
        }
    }

    static void terms2HandsAreNumberedAmongThoseOfTheOwnDice() {
        DiceCups x = Help.made(1, 3, 2, false);
        due("hand 1 of 1 die", x.weigh(0, 0, 1, 0, 1, 5), 1);
        due("hand 2 of 1 die", x.weigh(0, 0, 2, 0, 1, 5), BAD);
        due("hand 3 of 3 dice", x.weigh(0, 1, 3, 0, 1, 6), 1);
        due("hand 4 of 3 dice", x.weigh(0, 1, 4, 0, 1, 6), BAD);
        due("hand 1 of 3 dice", x.weigh(0, 1, 1, 0, 1, 1), 1);
        x.cups(2, 1, 2, false);
        due("hand 2 of 2 dice", x.weigh(0, 0, 2, 0, 1, 5), 1);
        due("hand 3 of 2 dice", x.weigh(0, 0, 3, 0, 1, 5), BAD);
    }

    static void terms2AllWeightsAreOneAtFirst() {
        for (int[] cups : Help.ALL_CUPS) {
            // An object for each plan, for no more than 512 calls are promised.
            for (int plan = 0; plan < 4; plan++) {
                allOnes(Help.made(cups[0], cups[1], cups[2], false), plan, 0);
                allOnes(Help.made(cups[0], cups[1], cups[2], false), plan, 1);
            }
        }
    }

    private static void allOnes(DiceCups x, int plan, int player) {
        int hands = x.hands(player);
        int bids = x.count(4);
        for (int h = 0; h < hands; h++) {
            for (int last = NONE; last < bids; last++) {
                for (int move = CALL; move < bids; move++) {
                    if (Help.mayFollow(last, move)) {
                        due("weight", x.weigh(plan, player, h, last, move, 1), 1);
                    }
                }
            }
        }
    }

    static void terms2WeightZeroMayBe() {
        DiceCups x = new DiceCups();
        due("0", x.weigh(0, 0, 0, 0, 1, 0), 1);
        due("it was 0", x.weigh(0, 0, 0, 0, 1, 0), 0);
    }

    static void terms2WeightTwentyMayBe() {
        DiceCups x = new DiceCups();
        due("20", x.weigh(0, 0, 0, 0, 1, 20), 1);
        due("it was 20", x.weigh(0, 0, 0, 0, 1, 20), 20);
    }

    static void terms2WeightsBelowZeroAreRefused() {
        DiceCups x = new DiceCups();
        due("-1", x.weigh(0, 0, 0, 0, 1, -1), BAD);
        due("LOW", x.weigh(0, 0, 0, 0, 1, LOW), BAD);
        due("it was 1", x.weigh(0, 0, 0, 0, 1, 1), 1);
    }

    static void terms2WeightsAboveTwentyAreRefused() {
        DiceCups x = new DiceCups();
        due("21", x.weigh(0, 0, 0, 0, 1, 21), BAD);
        due("HIGH", x.weigh(0, 0, 0, 0, 1, HIGH), BAD);
        due("it was 1", x.weigh(0, 0, 0, 0, 1, 1), 1);
    }

    static void terms2ThereIsAWeightWithoutALastBid() {
        DiceCups x = new DiceCups();
        due("NONE", x.weigh(0, 0, 0, NONE, 2, 5), 1);
        due("NONE again", x.weigh(0, 0, 0, NONE, 2, 5), 5);
        due("behind bid 0", x.weigh(0, 0, 0, 0, 2, 5), 1);
    }

    // ======== 2 PLANS: T, the sum of weights

    /** Player 1 always calls by plan 1; hand 1 of player 0 bids two of 0 by plan 0: worth 0. */
    private static DiceCups whereHandZeroAloneCounts() {
        DiceCups x = new DiceCups();
        Help.alwaysCall(x, 1, 1);
        Help.only(x, 0, 0, 1, NONE, 2);
        return x;
    }

    static void terms2CallIsNotInTheSumOfTheFirstMove() {
        DiceCups x = whereHandZeroAloneCounts();
        Help.weights(x, 0, 0, 0, NONE, 3, 0, 0, 4);
        // Bid 0 holds with a 0, two of 1 fails: 3 of 7, for each of two hands of player 1.
        due("worth", x.worth(0, 1), Help.bits((3.0 / 7.0 + 3.0 / 7.0) / 4.0));
    }

    static void terms2BidsThatMayNotBeAreNotInTheSum() {
        DiceCups x = whereHandZeroAloneCounts();
        Help.only(x, 0, 0, 0, NONE, 2);
        Help.weights(x, 1, 1, 1, 2, 2, 1);
        // Two of 0 holds with 0 and 0. A 1 of player 1 calls it by 2 of 3 and wins, or bids two
        // of 1 by 1 of 3, which fails but for 1 and 1.
        due("worth", x.worth(0, 1), Help.bits((1.0 + 1.0 / 3.0) / 4.0));
    }

    static void terms2WhereAllWeightsAreZeroTheFirstMoveIsBidZero() {
        DiceCups x = whereHandZeroAloneCounts();
        Help.weights(x, 0, 0, 0, NONE);
        due("worth with a 0", x.worth(0, 1), Help.bits((1.0 + 1.0) / 4.0));
        Help.weights(x, 0, 0, 1, NONE);
        // Hand 1 bids one of 0 as well, which holds with hand 0 of player 1.
        due("worth with a 1", x.worth(0, 1), Help.bits((1.0 + 1.0 + 1.0) / 4.0));
    }

    static void terms2WhereAllWeightsAreZeroCallIsAheadOfBids() {
        DiceCups x = new DiceCups();
        Help.allOnly(x, 0, 0, NONE, 0);
        Help.weights(x, 1, 1, 0, 0);
        Help.weights(x, 1, 1, 1, 0);
        // Bid 0 is called and holds in 3 of 4.
        due("worth", x.worth(0, 1), Help.bits(0.75));
    }

    static void terms2WhereAllWeightsAreZeroPlayerZeroCallsToo() {
        DiceCups x = new DiceCups();
        Help.allOnly(x, 0, 0, NONE, 0);
        Help.allOnly(x, 1, 1, 0, 1);
        Help.weights(x, 0, 0, 0, 1);
        Help.weights(x, 0, 0, 1, 1);
        // Bid 1 is called and fails in 1 of 4.
        due("worth", x.worth(0, 1), Help.bits(0.25));
    }

    static void terms2BehindTheGreatestBidCallIsMadeThoughItsWeightIsZero() {
        DiceCups x = new DiceCups();
        Help.allOnly(x, 0, 0, NONE, 3);
        for (int h = 0; h < 2; h++) {
            due("weight 0", x.weigh(1, 1, h, 3, CALL, 0), 1);
        }
        due("worth", x.worth(0, 1), Help.bits(0.25));
        due("worth with weight 1", x.worth(0, 2), Help.bits(0.25));
        due("answer", x.answer(1, 0), Help.bits(0.75));
    }

    static void terms2WeightsThatAreAllZeroStayZeroWhenAsked() {
        DiceCups x = new DiceCups();
        Help.weights(x, 0, 0, 0, NONE);
        x.worth(0, 1);
        x.answer(1, 0);
        for (int bid = 0; bid < 4; bid++) {
            due("weight of " + bid, x.weigh(0, 0, 0, NONE, bid, 0), 0);
        }
    }

    static void terms2OneWeightOfTwentyIsLikeOneOfOne() {
        DiceCups x = whereHandZeroAloneCounts();
        Help.weights(x, 0, 0, 0, NONE, 20);
        long twenty = x.worth(0, 1);
        Help.weights(x, 0, 0, 0, NONE, 1);
        due("worth", twenty, x.worth(0, 1));
        due("worth", twenty, Help.bits(0.5));
    }

    // ======== 2 PLANS: worth

    static void terms2WorthIsZeroWherePlayerZeroNeverWins() {
        DiceCups x = new DiceCups();
        Help.only(x, 0, 0, 0, NONE, 3);
        Help.only(x, 0, 0, 1, NONE, 2);
        Help.alwaysCall(x, 1, 1);
        due("bits of 0.0", x.worth(0, 1), 0L);
    }

    static void terms2WorthIsOneWherePlayerZeroAlwaysWins() {
        DiceCups x = new DiceCups();
        Help.only(x, 0, 0, 0, NONE, 0);
        Help.only(x, 0, 0, 1, NONE, 1);
        Help.alwaysCall(x, 1, 1);
        due("bits of 1.0", x.worth(0, 1), 0x3ff0000000000000L);
    }

    static void terms2WorthOfPlayerOnesCallIsOneWhereTheBidHolds() {
        DiceCups x = new DiceCups();
        Help.alwaysCall(x, 1, 1);
        Help.allOnly(x, 0, 0, NONE, 2);
        due("two of 0 in 1 of 4", x.worth(0, 1), Help.bits(0.25));
    }

    static void terms2WorthOfPlayerZerosCallIsOneWhereTheBidFails() {
        DiceCups x = new DiceCups();
        Help.alwaysCall(x, 0, 0);
        Help.allOnly(x, 0, 0, NONE, 0);
        Help.allOnly(x, 1, 1, 0, 2);
        due("two of 0 fails in 3 of 4", x.worth(0, 1), Help.bits(0.75));
    }

    static void terms2WorthCountsTheThrowsOfBothHands() {
        DiceCups x = Help.made(2, 2, 2, false);
        Help.alwaysCall(x, 1, 1);
        for (int h = 0; h < 3; h++) {
            Help.only(x, 0, 0, h, NONE, h == 1 ? 5 : 7);
        }
        // 0 1 bids three of 1: 2 throws by 1 of 4; 0 0 bids four of 1: none; 1 1: 1 by 1 of 4.
        due("worth", x.worth(0, 1), Help.bits((2.0 + 1.0) / 16.0));
        Help.only(x, 0, 0, 1, NONE, 3);
        due("worth by mixed hands", x.worth(0, 1), Help.bits((4.0 + 2.0 + 1.0) / 16.0));
    }

    static void terms2WorthIsByThePipsToThePowerOfAllDice() {
        int[][] cups = {{1, 1, 3, 9}, {1, 2, 2, 8}, {1, 3, 2, 16}, {1, 1, 4, 16}};
        for (int[] one : cups) {
            DiceCups x = Help.made(one[0], one[1], one[2], false);
            Help.allOnly(x, 0, 0, NONE, (one[0] + one[1]) * one[2] - 1);
            due("worth of the greatest bid", x.worth(0, 1), Help.bits(1.0 / one[3]));
        }
    }

    static void terms2WorthOfNinthsIsRoundedOnceInTheEnd() {
        DiceCups x = Help.made(1, 1, 3, false);
        Help.allOnly(x, 0, 0, NONE, 0);
        Help.alwaysCall(x, 1, 1);
        due("one of 0 in 5 of 9", x.worth(0, 1), Help.bits(5.0 / 9.0));
    }

    /**
     * Hand 0 of player 0 (with four pips) makes bids that lead on to two of 3, which fails and is
     * called by player 0; other hands bid two of 0, which fails.
     */
    private static DiceCups whereFirstBidsWin() {
        DiceCups x = Help.made(1, 1, 4, false);
        for (int h = 1; h < 4; h++) {
            Help.only(x, 0, 0, h, NONE, 4);
        }
        for (int bid = 0; bid < 4; bid++) {
            Help.allOnly(x, 1, 1, bid, 7);
        }
        Help.allOnly(x, 1, 1, 4, CALL);
        return x;
    }

    private static double fourTimes(double e) {
        return (0.0 + e + e + e + e) / 16.0;
    }

    static void terms2WorthAddsBidsRising() {
        DiceCups x = whereFirstBidsWin();
        Help.weights(x, 0, 0, 0, NONE, 1, 1, 3, 2);
        double e = 0.0 + 1.0 / 7.0 + 1.0 / 7.0 + 3.0 / 7.0 + 2.0 / 7.0;
        due("worth", x.worth(0, 1), Help.bits(fourTimes(e)));
        CHECKS.sure("the order tells", e != 2.0 / 7.0 + 3.0 / 7.0 + 1.0 / 7.0 + 1.0 / 7.0);
    }

    static void terms2WorthAddsCallAheadOfBids() {
        DiceCups x = whereFirstBidsWin();
        Help.only(x, 0, 0, 0, NONE, 0);
        for (int bid = 1; bid < 4; bid++) {
            Help.only(x, 0, 0, 0, bid, CALL);
        }
        Help.weights(x, 1, 1, 0, 0, 1, 1, 3, 2);
        for (int h = 1; h < 4; h++) {
            Help.only(x, 1, 1, h, 0, h);
        }
        // With a 0 against a 0: CALL meets what holds, bids 1 to 3 fail. Else the bid holds.
        double e = 0.0 + 1.0 / 7.0 + 1.0 / 7.0 + 3.0 / 7.0 + 2.0 / 7.0;
        due("worth", x.worth(0, 1), Help.bits(e / 16.0));
        CHECKS.sure("the order tells", e != 1.0 / 7.0 + 3.0 / 7.0 + 2.0 / 7.0 + 1.0 / 7.0);
    }

    static void terms2WorthTakesTheWeightByTheSumAhead() {
        DiceCups x = whereHandZeroAloneCounts();
        Help.weights(x, 0, 0, 0, NONE, 3, 0, 0, 2);
        // Behind bid 0 hand 0 of player 1 calls by 3 of 11, else raises to what holds.
        Help.weights(x, 1, 1, 0, 0, 3, 0, 8, 0);
        Help.allOnly(x, 0, 0, 2, CALL);
        double inner = 0.0 + 3.0 / 11.0 * 1.0 + 8.0 / 11.0 * 0.0;
        double e = 0.0 + 3.0 / 5.0 * inner + 2.0 / 5.0 * 0.0;
        due("worth", x.worth(0, 1), Help.bits((0.0 + e + 3.0 / 5.0) / 4.0));
        CHECKS.sure("the weight alone tells", e != 3.0 * inner / 5.0);
    }

    // ======== 2 PLANS: the answer

    static void terms2TheAnswerIsZeroWhereTheOtherAlwaysWins() {
        DiceCups x = Help.made(1, 1, 2, true);
        Help.allOnly(x, 0, 0, NONE, 3);
        // Where 0 is wild each die counts for two of 1, and behind it CALL alone may be.
        due("bits of 0.0", x.answer(1, 0), 0L);
    }

    static void terms2TheAnswerIsOneWhereThePlayerAlwaysWins() {
        DiceCups x = new DiceCups();
        Help.alwaysCall(x, 1, 1);
        due("bits of 1.0", x.answer(0, 1), 0x3ff0000000000000L);
    }

    static void terms2TheAnswerStartsFromTheOthersThrows() {
        DiceCups x = Help.made(1, 3, 2, false);
        Help.alwaysCall(x, 1, 1);
        // A die bids itself, which is sure against 1, 3, 3 and 1 throws.
        due("answer to CALL", x.answer(0, 1), Help.bits((8.0 + 8.0) / 16.0));
        for (int h = 0; h < 4; h++) {
            Help.only(x, 1, 1, h, 0, h == 2 ? 7 : CALL);
            Help.only(x, 1, 1, h, 1, 7);
        }
        // With a 0: 0 0 0, 0 0 1 and 1 1 1 call bid 0, 0 1 1 goes on to what fails.
        // With a 1: behind bid 1 all go on to four of 1, which fails but for 1 1 1.
        Help.allOnly(x, 1, 1, 2, 7);
        for (int last = 3; last < 7; last++) {
            Help.allOnly(x, 1, 1, last, CALL);
        }
        due("answer to who goes on", x.answer(0, 1), Help.bits((8.0 + 7.0) / 16.0));
    }

    static void terms2TheAnswerIsTheBestOfEachHand() {
        DiceCups x = Help.made(1, 3, 2, false);
        Help.allOnly(x, 0, 0, NONE, 3);
        Help.alwaysCall(x, 0, 0);
        // Behind two of 1: 0 0 0 calls and wins twice, 0 0 1 once; 0 1 1 wins once with three
        // of 1, 1 1 1 twice.
        due("answer", x.answer(1, 0), Help.bits((1.0 * 2.0 + 3.0 + 3.0 + 1.0 * 2.0) / 16.0));
    }

    static void terms2TheAnswerCountsTheOwnThrows() {
        DiceCups x = Help.made(3, 1, 2, false);
        for (int h = 0; h < 4; h++) {
            Help.only(x, 0, 0, h, NONE, 7);
        }
        // Four of 1 fails but for 1 1 1 and 1: seen by player 1 are 8 throws, and 7.
        due("answer", x.answer(1, 0), Help.bits((8.0 + 7.0) / 16.0));
        x = Help.made(1, 3, 2, false);
        Help.allOnly(x, 0, 0, NONE, 7);
        // Own throws of player 1 are 1, 3, 3, 1; with 1 1 1 the bid fails for one of two hands.
        due("answer", x.answer(1, 0), Help.bits((2.0 + 3.0 * 2.0 + 3.0 * 2.0 + 1.0) / 16.0));
    }

    static void terms2OfLikeFirstMovesTheLeastBidIsTaken() {
        DiceCups x = Help.made(1, 1, 4, true);
        Help.alwaysCall(x, 1, 1);
        // A wild 0 makes one of each pip sure.
        due("opening with a 0", x.opening(1, 0), 0);
        due("opening with a 2", x.opening(1, 2), 2);
    }

    static void terms2OfLikeMovesCallIsTakenAheadOfBids() {
        DiceCups x = new DiceCups();
        Help.only(x, 0, 0, 0, NONE, 1);
        Help.only(x, 0, 0, 1, NONE, 3);
        Help.alwaysCall(x, 0, 0);
        // Hand 0 alone bids 1; with a 0 CALL wins, and so does two of 0 that is called.
        due("reply CALL", x.reply(0, 0, 1), CALL);
    }

    static void terms2OfLikeMovesThatLoseCallIsTaken() {
        DiceCups x = new DiceCups();
        Help.allOnly(x, 0, 0, NONE, 2);
        Help.only(x, 0, 0, 1, NONE, 3);
        Help.alwaysCall(x, 0, 0);
        // Two of 0 is bid by a 0 alone, and holds with a 0.
        due("reply", x.reply(0, 0, 2), CALL);
    }

    static void terms2OfLikeBidsTheLeastIsTaken() {
        DiceCups x = Help.made(1, 1, 4, true);
        Help.allOnly(x, 0, 0, NONE, 0);
        Help.alwaysCall(x, 0, 0);
        // With a 0, bids 1, 2 and 3 are sure, and CALL never wins.
        due("reply", x.reply(0, 0, 0), 1);
    }

    static void terms2AGreaterMoveIsTakenThoughItComesLater() {
        DiceCups x = new DiceCups();
        Help.allOnly(x, 0, 0, NONE, 0);
        Help.alwaysCall(x, 0, 0);
        // With a 1, CALL wins 1 of 2, one of 1 always.
        due("reply", x.reply(0, 1, 0), 1);
    }

    static void terms2HandsThatNeverMakeAMoveDoNotCount() {
        DiceCups x = new DiceCups();
        Help.only(x, 0, 0, 0, NONE, 2);
        Help.only(x, 0, 0, 1, NONE, 3);
        Help.alwaysCall(x, 0, 0);
        // Two of 0 comes from a 0 alone, two of 1 from a 1 alone.
        due("a 1 calls two of 0", x.reply(0, 1, 2), CALL);
        due("answer", x.answer(1, 0), Help.bits((1.0 + 1.0) / 4.0));
    }

    static void terms2TheOthersBidsAreLookedAtToo() {
        DiceCups x = new DiceCups();
        Help.alwaysCall(x, 1, 1);
        due("a 1 against CALL", x.opening(1, 1), 1);
        // Behind bid 0 two of 0 comes now, which a 1 calls: it fails.
        Help.allOnly(x, 1, 1, 0, 2);
        due("a 1 against two of 0", x.opening(1, 1), 0);
    }

    static void terms2TheAnswerTakesTheFirstMoveWhereAllWeightsAreZero() {
        DiceCups x = new DiceCups();
        for (int h = 0; h < 2; h++) {
            for (int last = 0; last < 4; last++) {
                Help.weights(x, 1, 1, h, last);
            }
            Help.weights(x, 2, 0, h, NONE);
        }
        due("who always calls", x.answer(0, 1), Help.bits(1.0));
        due("reply to bid 0", x.reply(2, 1, 0), 1);
        due("reply to bid 1 that is never made", x.reply(2, 0, 1), CALL);
    }

    static void terms2TheAnswerAddsBidsRising() {
        DiceCups x = new DiceCups();
        // Hand 0 of player 0 bids by 1, 1, 2 and 3 of 7; hand 1 bids two of 1.
        Help.weights(x, 0, 0, 0, NONE, 1, 1, 2, 3);
        Help.only(x, 0, 0, 1, NONE, 3);
        Help.only(x, 0, 0, 0, 1, CALL);
        Help.only(x, 0, 0, 1, 1, CALL);
        Help.allOnly(x, 0, 0, 2, 3);
        double one = 1.0 / 7.0;
        double two = 2.0 / 7.0;
        double three = 3.0 / 7.0;
        // With a 0: raised to two of 0, then 3 is called; 1 is called; 2 is lost; 3 is called.
        double v0 = 0.0 + one + one + 0.0 + (0.0 + three + 1.0);
        // With a 1: raised to 1; raised to 2, then 3 is called; 2 is called; 3 is called.
        double v1 = 0.0 + one + one + two + three;
        due("answer", x.answer(1, 0), Help.bits((0.0 + 1.0 * v0 + 1.0 * v1) / 4.0));
        double falling = (0.0 + three + 1.0) + 0.0 + one + one + (three + two + one + one);
        CHECKS.sure("the order tells", (v0 + v1) / 4.0 != falling / 4.0);
    }

    static void terms2TheAnswerAddsCallAheadOfBids() {
        DiceCups x = new DiceCups();
        Help.alwaysCall(x, 0, 1);
        Help.weights(x, 0, 1, 0, 0, 1, 3, 1, 2);
        double call = 1.0 / 7.0;
        double bid1 = 3.0 / 7.0;
        double bid3 = 2.0 / 7.0;
        // With a 0 bid 0 is the best: it holds, 1 and 3 of hand 0 fail, 2 holds.
        double v0 = 0.0 + call + 1.0 + bid1 + 0.0 + bid3;
        // With a 1 bid 1 is sure.
        due("answer", x.answer(0, 0), Help.bits((0.0 + v0 + 2.0) / 4.0));
        CHECKS.sure("the order tells",
            (v0 + 2.0) / 4.0 != (bid1 + 0.0 + bid3 + call + 1.0 + 2.0) / 4.0);
    }

    /** The sum of a row in its order, without one hand. */
    private static double sumBut(int skipped, double... row) {
        double sum = 0.0;
        for (int h = 0; h < row.length; h++) {
            sum = h == skipped ? sum : sum + row[h];
        }
        return sum;
    }

    static void terms2TheAnswerAddsHandsRisingWhereItCalls() {
        DiceCups x = Help.made(1, 1, 4, false);
        double[] six = {2.0 / 3.0, 1.0 / 3.0, 1.0 / 3.0, 1.0 / 3.0};
        double[] seven = {1.0 / 3.0, 2.0 / 3.0, 2.0 / 3.0, 2.0 / 3.0};
        for (int g = 0; g < 4; g++) {
            Help.weights(x, 0, 0, g, NONE, 0, 0, 0, 0, 0, 0, g == 0 ? 2 : 1, g == 0 ? 1 : 2);
        }
        // Two of 2 is called but for 2 and 2, two of 3 but for 3 and 3.
        double sum = 0.0;
        for (int h = 0; h < 4; h++) {
            double v = 0.0 + sumBut(h == 2 ? 2 : -1, six) + sumBut(h == 3 ? 3 : -1, seven);
            sum = sum + 1.0 * v;
        }
        due("answer", x.answer(1, 0), Help.bits(sum / 16.0));
        CHECKS.sure("the order tells", sum / 16.0 != 0.9375);
    }

    static void terms2TheAnswerTakesTheWeightByTheSumAhead() {
        DiceCups x = Help.made(3, 1, 2, false);
        int[] w = {2, 3, 3, 1, 2, 3, 3, 1};
        int[] ways = {1, 3, 3, 1};
        double[] six = new double[4];
        double[] seven = new double[4];
        for (int g = 0; g < 4; g++) {
            Help.weights(x, 0, 0, g, NONE, 0, 0, 0, 0, 0, 0, w[2 * g], w[2 * g + 1]);
            double total = w[2 * g] + w[2 * g + 1];
            six[g] = ways[g] * (w[2 * g] / total);
            seven[g] = ways[g] * (w[2 * g + 1] / total);
        }
        // Four of 0 holds with 0 0 0 and 0, four of 1 with 1 1 1 and 1: all else is called.
        double v0 = 0.0 + sumBut(0, six) + sumBut(-1, seven);
        double v1 = 0.0 + sumBut(-1, six) + sumBut(3, seven);
        due("answer", x.answer(1, 0), Help.bits((0.0 + v0 + v1) / 16.0));
        CHECKS.sure("throws times the weight is another", 3.0 * 3.0 / 5.0 != 3.0 * (3.0 / 5.0));
    }

    // ======== 2 PLANS: rows of all eight bids

    static void terms2WorthLooksBehindAllEightBids() {
        DiceCups x = Help.made(1, 1, 4, false);
        for (int last = NONE; last < 7; last++) {
            Help.allOnly(x, 0, (last + 1) % 2, last, last + 1);
        }
        // Player 0 calls two of 3, which player 1 has bid.
        due("worth", x.worth(0, 0), Help.bits(15.0 / 16.0));
    }

    static void terms2TheAnswerOfPlayerZeroGoesStepByStep() {
        DiceCups x = Help.made(1, 3, 2, false);
        Help.alwaysCall(x, 0, 1);
        // Each hand goes on for as long as CALL would win: 0 0 0 up to four of 0.
        for (int h = 0; h < 4; h++) {
            for (int last = 0; last < 2 * (3 - h); last += 2) {
                Help.only(x, 0, 1, h, last, last + 1);
            }
        }
        // With a 0 step by step each hand calls what holds; a 1 bids one of 1.
        due("answer", x.answer(0, 0), Help.bits((8.0 + 8.0) / 16.0));
        due("opening", x.opening(0, 0), 0);
    }

    static void terms2TheAnswerOfPlayerOneGoesStepByStep() {
        DiceCups x = Help.made(3, 1, 2, false);
        Help.alwaysCall(x, 0, 0);
        Help.allOnly(x, 0, 0, NONE, 0);
        for (int g = 0; g < 4; g++) {
            for (int last = 1; last < 1 + 2 * g; last += 2) {
                Help.only(x, 0, 0, g, last, last + 1);
            }
        }
        // With a 1 step by step each hand calls what holds. With a 0 two of 0 at once holds
        // but with 1 1 1.
        due("answer", x.answer(1, 0), Help.bits((8.0 + 7.0) / 16.0));
        due("reply", x.reply(0, 1, 0), 1);
        due("reply with a 0", x.reply(0, 0, 0), 2);
    }

    static void terms2TheAnswerOfPlayerZeroLooksBehindAllEightBids() {
        DiceCups x = Help.made(1, 3, 2, false);
        Help.alwaysCall(x, 0, 1);
        for (int h = 0; h < 3; h++) {
            for (int last = 0; last < 2 * (3 - h); last += 2) {
                Help.only(x, 0, 1, h, last, last + 1);
            }
        }
        // 1 1 1 calls bid 0 by a half, two of 0 by a half, and else goes on to four of 1.
        Help.weights(x, 0, 1, 3, 0, 1, 1);
        Help.weights(x, 0, 1, 3, 2, 1, 1);
        Help.only(x, 0, 1, 3, 4, 5);
        Help.only(x, 0, 1, 3, 6, 7);
        // With a 0 each bid is needed: a half at bid 0, 0 1 1 at 2, 0 0 1 at 4, 0 0 0 at 6, and
        // a quarter by CALL behind the eighth bid.
        double v0 = 0.5 + 3.0 + 3.0 + 1.0 + 0.25;
        due("answer", x.answer(0, 0), Help.bits((v0 + 8.0) / 16.0));
        due("opening", x.opening(0, 0), 0);
    }

    static void terms2TheAnswerOfPlayerOneLooksBehindAllEightBids() {
        DiceCups x = Help.made(1, 1, 4, true);
        Help.alwaysCall(x, 0, 0);
        Help.allOnly(x, 0, 0, NONE, 0);
        // What a 0 could take at once by bid 2 is raised to what holds.
        int[] raised = {7, 5, 6, 7};
        for (int g = 0; g < 4; g++) {
            Help.only(x, 0, 0, g, 2, raised[g]);
        }
        for (int last = 1; last < 7; last += 2) {
            Help.only(x, 0, 0, 0, last, last + 1);
        }
        Help.only(x, 0, 0, 2, 1, 2);
        Help.weights(x, 0, 0, 1, 1, 1, 1);
        Help.weights(x, 0, 0, 1, 3, 0, 1, 1);
        // A wild 0 wins at bid 1 the 3 and a half of the 1, at bid 3 the 2, at bid 5 a quarter of
        // the 1, and the 0 by two of 3, the eighth bid.
        double v0 = 0.5 + 1.0 + 1.0 + 0.25 + 1.0;
        // A 1 and a 2 call bid 0, which fails but for a 0; a 3 wins each time by one of 3.
        due("answer", x.answer(1, 0), Help.bits((v0 + 3.0 + 3.0 + 4.0) / 16.0));
        due("reply of a 0", x.reply(0, 0, 0), 1);
        due("reply of a 2", x.reply(0, 2, 0), CALL);
        due("reply of a 3", x.reply(0, 3, 0), 3);
    }

    // ======== 3 A ROUND

    static void terms3PlayerZeroDrawsFirst() {
        DiceCups x = Help.made(1, 1, 4, false);
        due("round(7)", x.round(7), 0);
        due("held(1)", x.held(1), 2);
        x.cups(1, 3, 2, false);
        // 1, 1 0 0.
        due("round(HIGH)", x.round(HIGH), 1);
        due("held(1) of 3", x.held(1), 1);
        x.cups(3, 1, 2, false);
        // 1 1 0, 0.
        due("round(HIGH) of 3", x.round(HIGH), 2);
        due("held(1) of 1", x.held(1), 0);
    }

    static void terms3DiceArePutInOrder() {
        DiceCups x = Help.made(2, 2, 2, false);
        // 0 0, 0 1.
        x.round(0);
        due("held(0)", x.held(0), 0);
        due("held(1)", x.held(1), 1);
        x = Help.made(1, 3, 2, false);
        // 1, 1 0 0: the row falls.
        x.round(HIGH);
        due("held(1) of 1 0 0", x.held(1), 1);
        due("ones", x.hand(1, x.held(1), 1), 1);
    }

    static void terms3SeedZeroMayBe() {
        DiceCups x = Help.made(1, 1, 3, false);
        due("round(0)", x.round(0), 0);
        due("held(1)", x.held(1), 0);
    }

    static void terms3TheGreatestSeedMayBe() {
        DiceCups x = Help.made(1, 1, 3, false);
        due("round(HIGH)", x.round(HIGH), 2);
        due("held(1)", x.held(1), 2);
        x.cups(1, 1, 2, false);
        due("round(HIGH) of two", x.round(HIGH), 1);
        due("held(1) of two", x.held(1), 1);
    }

    static void terms3TheLowest31BitsStay() {
        DiceCups x = Help.made(1, 1, 3, false);
        // With more bits, or with a sign, the rest by 3 is another one.
        due("round(1)", x.round(1), 2);
        due("held(1)", x.held(1), 1);
        due("round(1 << 30)", x.round(1 << 30), 1);
        due("held(1)", x.held(1), 2);
        due("round(65535)", x.round(65535), 1);
        due("held(1)", x.held(1), 1);
        for (int seed = 0; seed < 100; seed++) {
            int[] pips = Help.drawn(seed * 21474836, 2, 3);
            due("round", x.round(seed * 21474836), pips[0]);
            due("held(1)", x.held(1), pips[1]);
        }
    }

    static void terms3ASeedDrawsTheSameDiceAgain() {
        DiceCups x = Help.made(1, 1, 4, false);
        int first = x.round(203);
        int second = x.held(1);
        x.round(1);
        due("round(203)", x.round(203), first);
        due("held(1)", x.held(1), second);
    }

    static void terms3EachPipIsWhatThePipsLeaveOver() {
        for (int[] cups : Help.ALL_CUPS) {
            DiceCups x = Help.made(cups[0], cups[1], cups[2], false);
            for (int seed = 0; seed < 100; seed++) {
                int[] pips = Help.drawn(seed, cups[0] + cups[1], cups[2]);
                due("round(" + seed + ")", x.round(seed), handNumber(pips, 0, cups[0], cups[2]));
                due("held(1)", x.held(1), handNumber(pips, cups[0], pips.length, cups[2]));
            }
        }
    }

    /** One die's hand is its pip; of more dice, which have two pips here, how many have 1. */
    private static int handNumber(int[] pips, int from, int to, int faces) {
        int sum = 0;
        for (int i = from; i < to; i++) {
            sum += pips[i];
        }
        CHECKS.sure("one die or two pips", to - from == 1 || faces == 2);
        return sum;
    }
}
