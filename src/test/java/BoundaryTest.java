/** Each boundary that promises 1 to 19 of the document name has a test of its own here. */
public final class BoundaryTest {
    private static final int LOW = Help.LOW;
    private static final int HIGH = Help.HIGH;
    private static final int CALL = Help.CALL;
    private static final int NONE = Help.NONE;
    private static final int BAD = Help.BAD;
    private static final int NO = Help.NO;
    private static final int OFF_SCALE = -100;
    private static final Checks CHECKS = new Checks("BoundaryTest");

    public static void main(String[] args) {
        Named.run(BoundaryTest.class, CHECKS);
    }

    private static void due(String call, long got, long want) {
        CHECKS.due(call, got, want);
    }

    /** Plays a round of one die each with two pips, in which both hold a 0. */
    private static void play(DiceCups x, int... moves) {
        due("round(7)", x.round(7), 0);
        for (int m : moves) {
            x.move(m);
        }
    }

    // ======== the constants, and how long an object is used

    static void theConstantsAreBelowZero() {
        due("NONE", DiceCups.NONE, -1);
        due("BAD", DiceCups.BAD, -2);
        due("NO", DiceCups.NO, -3);
    }

    static void the512thCallIsAnswered() {
        DiceCups x = new DiceCups();
        for (int i = 0; i < 127; i++) {
            x.round(7);
            x.move(0);
            x.move(CALL);
            x.weigh(i % 4, 0, 0, NONE, 0, i % 21);
        }
        x.worth(0, 1);
        x.answer(0, 1);
        x.digest();
        // Calls 1 to 511 are behind it.
        due("count(5)", x.count(5), 127);
    }

    // ======== Promise 1: a new object

    static void promise01ANewObjectHasOneDieEach() {
        DiceCups x = new DiceCups();
        due("count(0)", x.count(0), 1);
        due("count(1)", x.count(1), 1);
    }

    static void promise01ANewObjectHasTwoPips() {
        DiceCups x = new DiceCups();
        due("count(2)", x.count(2), 2);
        due("count(4)", x.count(4), 4);
        due("hands(0)", x.hands(0), 2);
        due("hands(1)", x.hands(1), 2);
    }

    static void promise01NothingIsWildInANewObject() {
        DiceCups x = new DiceCups();
        due("count(3)", x.count(3), 0);
        due("one of 1 where both are 0", x.holds(0, 0, 1), 0);
    }

    static void promise01ANewObjectHasNoRound() {
        DiceCups x = new DiceCups();
        due("held(0)", x.held(0), NO);
        due("held(1)", x.held(1), NO);
        due("move(0)", x.move(0), NO);
        for (int what = 0; what < 4; what++) {
            due("about(" + what + ")", x.about(what), NO);
        }
    }

    static void promise01NoRoundIsWonInANewObject() {
        DiceCups x = new DiceCups();
        due("count(5)", x.count(5), 0);
        due("count(6)", x.count(6), 0);
    }

    static void promise01AllWeightsOfANewObjectAreOne() {
        DiceCups x = new DiceCups();
        for (int plan = 0; plan < 4; plan++) {
            for (int h = 0; h < 2; h++) {
                due("at first", x.weigh(plan, 0, h, NONE, 3, 1), 1);
                due("behind the greatest", x.weigh(plan, 1, h, 3, CALL, 1), 1);
            }
        }
    }

    static void promise01TwoObjectsStandApart() {
        DiceCups x = new DiceCups();
        DiceCups y = new DiceCups();
        long before = y.digest();
        x.cups(2, 2, 2, true);
        x.weigh(0, 0, 0, NONE, 0, 9);
        x.round(7);
        due("digest of the other", y.digest(), before);
    }

    // ======== Promise 2: cups

    static void promise02CupsTellsHowManyBids() {
        for (int[] cups : Help.ALL_CUPS) {
            DiceCups x = new DiceCups();
            due("cups", x.cups(cups[0], cups[1], cups[2], true), cups[3]);
            due("count(4)", x.count(4), cups[3]);
        }
    }

    static void promise02CupsOfNineBidsAreRefused() {
        DiceCups x = new DiceCups();
        due("cups(1, 2, 3)", x.cups(1, 2, 3, false), BAD);
        due("cups(2, 1, 3)", x.cups(2, 1, 3, true), BAD);
    }

    static void promise02CupsOfEightBidsAreTaken() {
        DiceCups x = new DiceCups();
        due("cups(2, 2, 2)", x.cups(2, 2, 2, false), 8);
        due("cups(1, 1, 4)", x.cups(1, 1, 4, true), 8);
    }

    static void promise02CupsMakeAllWeightsOne() {
        DiceCups x = new DiceCups();
        x.weigh(0, 0, 0, NONE, 0, 9);
        x.weigh(3, 1, 1, 3, CALL, 0);
        x.cups(1, 1, 2, false);
        due("the first", x.weigh(0, 0, 0, NONE, 0, 9), 1);
        due("the last", x.weigh(3, 1, 1, 3, CALL, 0), 1);
    }

    static void promise02CupsMakeWeightsOfOtherDiceOneToo() {
        DiceCups x = Help.made(1, 3, 2, false);
        x.weigh(1, 1, 3, 6, 7, 9);
        x.weigh(1, 0, 1, 6, 7, 8);
        x.cups(2, 2, 2, false);
        x.weigh(1, 1, 2, 6, 7, 7);
        x.cups(1, 3, 2, false);
        due("of 3 dice", x.weigh(1, 1, 3, 6, 7, 9), 1);
        due("of 1 die", x.weigh(1, 0, 1, 6, 7, 8), 1);
        x.cups(2, 1, 2, false);
        due("of 2 dice", x.weigh(1, 0, 2, 4, 5, 7), 1);
    }

    static void promise02LikeCupsMakeAllWeightsOneToo() {
        DiceCups x = Help.made(2, 2, 2, true);
        x.weigh(2, 0, 1, 3, 5, 9);
        due("cups again", x.cups(2, 2, 2, true), 8);
        due("weight", x.weigh(2, 0, 1, 3, 5, 9), 1);
    }

    static void promise02CupsEndARoundThatGoes() {
        DiceCups x = new DiceCups();
        play(x, 0);
        x.cups(1, 1, 2, false);
        due("held(0)", x.held(0), NO);
        due("about(0)", x.about(0), NO);
        due("move(3)", x.move(3), NO);
        due("won", x.count(5) + x.count(6), 0);
    }

    static void promise02CupsForgetARoundThatIsOver() {
        DiceCups x = new DiceCups();
        play(x, 0, CALL);
        x.cups(1, 1, 2, false);
        due("held(1)", x.held(1), NO);
        due("about(3)", x.about(3), NO);
        due("move(-1)", x.move(CALL), NO);
    }

    static void promise02RoundsWonStayBehindCups() {
        DiceCups x = new DiceCups();
        play(x, 0, CALL);
        play(x, 3, CALL);
        play(x, 3, CALL);
        x.cups(3, 1, 2, true);
        due("won by 0", x.count(5), 1);
        due("won by 1", x.count(6), 2);
    }

    static void promise02RefusedCupsChangeNothing() {
        DiceCups x = Help.made(1, 2, 2, true);
        x.weigh(1, 1, 2, 4, 5, 17);
        x.round(1);
        x.move(2);
        long before = x.digest();
        due("cups above 8", x.cups(1, 2, 3, false), BAD);
        due("cups of no die", x.cups(0, 1, 2, false), BAD);
        due("cups of one pip", x.cups(1, 1, 1, false), BAD);
        due("digest", x.digest(), before);
        due("the round goes on", x.move(3), 0);
        due("weight", x.weigh(1, 1, 2, 4, 5, 17), 17);
    }

    // ======== Promise 3: hands

    static void promise03HandsOfEachPlayer() {
        DiceCups x = Help.made(1, 3, 2, false);
        due("hands(0)", x.hands(0), 2);
        due("hands(1)", x.hands(1), 4);
        x.cups(2, 1, 2, true);
        due("hands(0)", x.hands(0), 3);
        due("hands(1)", x.hands(1), 2);
        x.cups(1, 1, 4, true);
        due("hands(0) of four pips", x.hands(0), 4);
        due("hands(1) of four pips", x.hands(1), 4);
    }

    static void promise03PlayersBesideTheTwoAreBad() {
        DiceCups x = new DiceCups();
        for (int player : new int[] {LOW, -1, 2, HIGH}) {
            due("hands(" + player + ")", x.hands(player), BAD);
        }
    }

    // ======== Promise 4: hand

    static void promise04DiceOfAllPipsAreAllDice() {
        for (int[] cups : Help.ALL_CUPS) {
            DiceCups x = Help.made(cups[0], cups[1], cups[2], false);
            for (int player = 0; player < 2; player++) {
                for (int h = 0; h < x.hands(player); h++) {
                    int sum = 0;
                    for (int face = 0; face < cups[2]; face++) {
                        sum += x.hand(player, h, face);
                    }
                    due("dice of hand " + h, sum, cups[player]);
                }
            }
        }
    }

    static void promise04APipThatAHandLacksIsZeroDice() {
        DiceCups x = Help.made(1, 1, 3, false);
        due("hand(0, 0, 2)", x.hand(0, 0, 2), 0);
        due("hand(1, 2, 0)", x.hand(1, 2, 0), 0);
    }

    static void promise04WildZeroesDoNotCountInAHand() {
        DiceCups x = Help.made(3, 1, 2, true);
        due("ones of 0 0 1", x.hand(0, 1, 1), 1);
        due("ones of 0 0 0", x.hand(0, 0, 1), 0);
    }

    static void promise04PipsBesideAreBad() {
        DiceCups x = Help.made(1, 1, 3, false);
        for (int face : new int[] {LOW, -1, 3, 4, HIGH}) {
            due("face " + face, x.hand(0, 0, face), OFF_SCALE);
        }
    }

    static void promise04HandsBesideAreBad() {
        DiceCups x = Help.made(1, 3, 2, false);
        for (int h : new int[] {LOW, -1, 2, 3, HIGH}) {
            due("hand " + h + " of 0", x.hand(0, h, 0), OFF_SCALE);
        }
        for (int h : new int[] {LOW, -1, 4, HIGH}) {
            due("hand " + h + " of 1", x.hand(1, h, 0), OFF_SCALE);
        }
        due("the last of 0", x.hand(0, 1, 1), 1);
        due("the last of 1", x.hand(1, 3, 1), 3);
    }

    static void promise04PlayersBesideTheTwoAreBad() {
        DiceCups x = new DiceCups();
        for (int player : new int[] {LOW, -1, 2, HIGH}) {
            due("player " + player, x.hand(player, 0, 0), OFF_SCALE);
        }
    }

    // ======== Promise 5: throwsOf

    static void promise05ThrowsAddUpToAllRows() {
        for (int[] cups : Help.ALL_CUPS) {
            DiceCups x = Help.made(cups[0], cups[1], cups[2], false);
            for (int player = 0; player < 2; player++) {
                int sum = 0;
                int rows = 1;
                for (int h = 0; h < x.hands(player); h++) {
                    sum += x.throwsOf(player, h);
                }
                for (int i = 0; i < cups[player]; i++) {
                    rows *= cups[2];
                }
                due("throws of " + player, sum, rows);
            }
        }
    }

    static void promise05HandsBesideAreBad() {
        DiceCups x = Help.made(3, 1, 2, false);
        for (int h : new int[] {LOW, -1, 4, HIGH}) {
            due("hand " + h + " of 0", x.throwsOf(0, h), BAD);
        }
        for (int h : new int[] {LOW, -1, 2, 3, HIGH}) {
            due("hand " + h + " of 1", x.throwsOf(1, h), BAD);
        }
        due("the last of 0", x.throwsOf(0, 3), 1);
        due("the last of 1", x.throwsOf(1, 1), 1);
    }

    static void promise05PlayersBesideTheTwoAreBad() {
        DiceCups x = new DiceCups();
        for (int player : new int[] {LOW, -1, 2, HIGH}) {
            due("player " + player, x.throwsOf(player, 0), BAD);
        }
    }

    // ======== Promise 6: holds

    static void promise06HoldsIsOneOrZero() {
        DiceCups x = Help.made(2, 1, 2, false);
        due("three of 1 with 1 1 and 1", x.holds(2, 1, 5), 1);
        due("three of 1 with 0 1 and 1", x.holds(1, 1, 5), 0);
        due("two of 0 with 0 1 and 0", x.holds(1, 0, 2), 1);
        due("two of 0 with 1 1 and 0", x.holds(2, 0, 2), 0);
    }

    static void promise06TheFirstHandIsThatOfPlayerZero() {
        DiceCups x = Help.made(1, 3, 2, false);
        due("hand 1 of 0 with 3 of 1", x.holds(1, 3, 7), 1);
        due("hand 3 of 0", x.holds(3, 1, 7), BAD);
    }

    static void promise06HandsBesideAreBad() {
        DiceCups x = Help.made(1, 3, 2, false);
        for (int g : new int[] {LOW, -1, 2, HIGH}) {
            due("hand " + g + " of 0", x.holds(g, 0, 0), BAD);
        }
        for (int h : new int[] {LOW, -1, 4, HIGH}) {
            due("hand " + h + " of 1", x.holds(0, h, 0), BAD);
        }
    }

    static void promise06BidsBesideAreBad() {
        DiceCups x = Help.made(1, 1, 3, false);
        for (int bid : new int[] {LOW, -1, 6, 7, HIGH}) {
            due("bid " + bid, x.holds(0, 0, bid), BAD);
        }
        due("bid 0", x.holds(0, 0, 0), 1);
        due("bid 5", x.holds(2, 2, 5), 1);
    }

    // ======== Promise 7: chance

    private static void chanceDue(DiceCups x, int player, int h, int bid, int above, int below) {
        String call = "chance(" + player + ", " + h + ", " + bid + ")";
        due(call + " above", x.chance(player, h, bid, 0), above);
        due(call + " below", x.chance(player, h, bid, 1), below);
    }

    static void promise07NoChanceIsZeroByOne() {
        chanceDue(Help.made(1, 3, 2, false), 0, 0, 7, 0, 1);
        chanceDue(Help.made(3, 1, 2, false), 1, 0, 7, 0, 1);
        chanceDue(Help.made(1, 1, 3, false), 0, 0, 5, 0, 1);
    }

    static void promise07SureIsOneByOne() {
        chanceDue(Help.made(1, 3, 2, false), 0, 0, 0, 1, 1);
        chanceDue(Help.made(3, 1, 2, false), 1, 1, 1, 1, 1);
        chanceDue(Help.made(2, 2, 2, true), 0, 0, 7, 1, 1);
    }

    static void promise07ChancesAreInLowestTerms() {
        DiceCups x = Help.made(1, 3, 2, false);
        // 4 of 8, and 2 of 4 with two dice.
        chanceDue(x, 0, 0, 3, 1, 2);
        x.cups(2, 2, 2, false);
        // 2 of 4 are 0 1, and 1 of 4 is 1 1: one of 1 by 3 of 4.
        chanceDue(x, 0, 0, 1, 3, 4);
        x.cups(1, 1, 4, true);
        // One of 2 by a 2 or a wild 0.
        chanceDue(x, 0, 1, 2, 1, 2);
    }

    static void promise07ChancesThatAreInLowestTermsStay() {
        chanceDue(Help.made(1, 3, 2, false), 0, 0, 5, 1, 8);
        chanceDue(Help.made(1, 3, 2, false), 0, 0, 1, 7, 8);
        chanceDue(Help.made(1, 1, 3, false), 0, 0, 1, 1, 3);
        chanceDue(Help.made(1, 1, 3, true), 0, 1, 2, 2, 3);
        chanceDue(Help.made(1, 1, 4, false), 0, 0, 4, 1, 4);
    }

    static void promise07TheChanceCountsTheThrowsOfTheOther() {
        DiceCups x = Help.made(2, 1, 2, false);
        // Player 1 sees one die and does not see two: 0 1 has two throws of four.
        chanceDue(x, 1, 1, 3, 3, 4);
        // Player 0 sees two dice and does not see one.
        chanceDue(x, 0, 1, 3, 1, 2);
    }

    static void promise07WhatIsZeroOrOne() {
        DiceCups x = new DiceCups();
        for (int what : new int[] {LOW, -1, 2, HIGH}) {
            due("what " + what, x.chance(0, 0, 0, what), BAD);
        }
    }

    static void promise07BidsBesideAreBad() {
        DiceCups x = Help.made(2, 1, 2, false);
        for (int bid : new int[] {LOW, -1, 6, HIGH}) {
            due("bid " + bid + " above", x.chance(0, 0, bid, 0), BAD);
            due("bid " + bid + " below", x.chance(0, 0, bid, 1), BAD);
        }
    }

    static void promise07HandsBesideAreBad() {
        DiceCups x = Help.made(2, 1, 2, false);
        for (int h : new int[] {LOW, -1, 3, HIGH}) {
            due("hand " + h, x.chance(0, h, 0, 0), BAD);
        }
        due("hand 2 of 1 die", x.chance(1, 2, 0, 0), BAD);
    }

    static void promise07PlayersBesideTheTwoAreBad() {
        DiceCups x = new DiceCups();
        for (int player : new int[] {LOW, -1, 2, HIGH}) {
            due("player " + player, x.chance(player, 0, 0, 1), BAD);
        }
    }

    // ======== Promise 8: surest

    static void promise08JustTheChanceIsEnough() {
        DiceCups x = Help.made(1, 3, 2, false);
        // With a 0, bids 0 to 7 hold in 8, 7, 7, 4, 4, 1, 1, 0 of 8.
        due("1 by 8", x.surest(0, 0, 1, 8), 6);
        due("1 by 2", x.surest(0, 0, 1, 2), 4);
        due("7 by 8", x.surest(0, 0, 7, 8), 2);
        due("1 by 1", x.surest(0, 0, 1, 1), 0);
        due("50 by 100", x.surest(0, 0, 50, 100), 4);
    }

    static void promise08ALittleMoreThanTheChanceIsTooMuch() {
        DiceCups x = Help.made(1, 3, 2, false);
        due("13 by 100", x.surest(0, 0, 13, 100), 4);
        due("51 by 100", x.surest(0, 0, 51, 100), 2);
        due("88 by 100", x.surest(0, 0, 88, 100), 0);
    }

    static void promise08TheGreatestBidIsTakenThoughALesserIsSurer() {
        DiceCups x = Help.made(1, 1, 2, false);
        due("1 by 2", x.surest(0, 0, 1, 2), 2);
        due("1 by 2 with a 1", x.surest(0, 1, 1, 2), 3);
    }

    static void promise08TheGreatestOfAllBidsMayBeIt() {
        DiceCups x = Help.made(2, 2, 2, true);
        due("four of 1 with 0 0", x.surest(0, 0, 100, 100), 7);
    }

    static void promise08MoreThanSureIsNone() {
        DiceCups x = Help.made(1, 3, 2, false);
        due("100 by 99", x.surest(0, 0, 100, 99), NONE);
        due("2 by 1", x.surest(0, 0, 2, 1), NONE);
        due("100 by 1", x.surest(1, 3, 100, 1), NONE);
    }

    static void promise08WhatNeverHoldsIsNotTaken() {
        DiceCups x = Help.made(1, 3, 2, false);
        due("1 by 100", x.surest(0, 0, 1, 100), 6);
        // Four of 1 does not hold with 0 0 0, three of 1 neither.
        due("1 by 100 with 0 0 0", x.surest(1, 0, 1, 100), 6);
        due("1 by 100 with 0 0 1", x.surest(1, 1, 1, 100), 4);
    }

    static void promise08OneToAHundredMayBe() {
        DiceCups x = new DiceCups();
        due("1 by 100", x.surest(0, 0, 1, 100), 2);
        due("100 by 100", x.surest(0, 0, 100, 100), 0);
        due("1 by 1", x.surest(0, 0, 1, 1), 0);
        due("100 by 1", x.surest(0, 0, 100, 1), NONE);
    }

    static void promise08BelowOneIsBad() {
        DiceCups x = new DiceCups();
        for (int low : new int[] {0, -1, LOW}) {
            due("a " + low, x.surest(0, 0, low, 1), BAD);
            due("b " + low, x.surest(0, 0, 1, low), BAD);
            due("both " + low, x.surest(0, 0, low, low), BAD);
        }
    }

    static void promise08AboveAHundredIsBad() {
        DiceCups x = new DiceCups();
        for (int high : new int[] {101, 1000, HIGH}) {
            due("a " + high, x.surest(0, 0, high, 100), BAD);
            due("b " + high, x.surest(0, 0, 1, high), BAD);
            due("both " + high, x.surest(0, 0, high, high), BAD);
        }
    }

    static void promise08HandsBesideAreBad() {
        DiceCups x = Help.made(1, 2, 2, false);
        for (int h : new int[] {LOW, -1, 2, HIGH}) {
            due("hand " + h, x.surest(0, h, 1, 1), BAD);
        }
        due("hand 3 of 2 dice", x.surest(1, 3, 1, 1), BAD);
    }

    static void promise08PlayersBesideTheTwoAreBad() {
        DiceCups x = new DiceCups();
        for (int player : new int[] {LOW, -1, 2, HIGH}) {
            due("player " + player, x.surest(player, 0, 1, 1), BAD);
        }
    }

    // ======== Promise 9: weigh

    static void promise09WeighTellsWhatTheWeightWas() {
        DiceCups x = new DiceCups();
        due("first", x.weigh(1, 0, 1, 1, 3, 7), 1);
        due("second", x.weigh(1, 0, 1, 1, 3, 20), 7);
        due("third", x.weigh(1, 0, 1, 1, 3, 0), 20);
        due("fourth", x.weigh(1, 0, 1, 1, 3, 1), 0);
    }

    static void promise09NoneIsTheLastBidOfTheFirstMove() {
        DiceCups x = new DiceCups();
        due("NONE", x.weigh(0, 0, 1, NONE, 0, 7), 1);
        due("NONE again", x.weigh(0, 0, 1, NONE, 0, 7), 7);
    }

    static void promise09NoneAsTheLastBidIsForPlayerOneToo() {
        DiceCups x = Help.made(1, 2, 2, false);
        due("NONE", x.weigh(0, 1, 2, NONE, 5, 7), 1);
        due("NONE again", x.weigh(0, 1, 2, NONE, 5, 7), 7);
    }

    static void promise09NoneAsTheMoveIsCall() {
        DiceCups x = new DiceCups();
        Help.allOnly(x, 0, 0, NONE, 0);
        for (int h = 0; h < 2; h++) {
            due("weight", x.weigh(1, 1, h, 0, NONE, 20), 1);
            for (int bid = 1; bid < 4; bid++) {
                x.weigh(1, 1, h, 0, bid, 0);
            }
        }
        due("CALL alone", x.worth(0, 1), Help.bits(0.75));
    }

    static void promise09CallAsTheFirstMoveIsBad() {
        DiceCups x = new DiceCups();
        for (int player = 0; player < 2; player++) {
            due("CALL as the first", x.weigh(0, player, 0, NONE, NONE, 1), BAD);
        }
    }

    static void promise09ABidNotAboveTheLastIsBad() {
        DiceCups x = Help.made(1, 1, 4, false);
        for (int last = 0; last < 8; last++) {
            for (int bid = 0; bid < 8; bid++) {
                due(bid + " behind " + last, x.weigh(0, 0, 0, last, bid, 1), bid > last ? 1 : BAD);
            }
        }
    }

    static void promise09BehindTheGreatestBidCallAloneHasAWeight() {
        DiceCups x = Help.made(2, 2, 2, false);
        due("CALL", x.weigh(0, 0, 0, 7, NONE, 3), 1);
        due("CALL again", x.weigh(0, 0, 0, 7, NONE, 3), 3);
        due("bid 7", x.weigh(0, 0, 0, 7, 7, 3), BAD);
        due("bid 8", x.weigh(0, 0, 0, 7, 8, 3), BAD);
    }

    static void promise09LastBidsBesideAreBad() {
        DiceCups x = Help.made(1, 2, 2, false);
        for (int last : new int[] {LOW, -3, -2, 6, 7, HIGH}) {
            due("last " + last + ", CALL", x.weigh(0, 0, 0, last, CALL, 1), BAD);
            due("last " + last + ", bid 5", x.weigh(0, 0, 0, last, 5, 1), BAD);
        }
    }

    static void promise09MovesBesideAreBad() {
        DiceCups x = Help.made(1, 2, 2, false);
        for (int move : new int[] {LOW, -3, -2, 6, 7, HIGH}) {
            due("move " + move, x.weigh(0, 0, 0, 0, move, 1), BAD);
            due("move " + move + " as the first", x.weigh(0, 0, 0, NONE, move, 1), BAD);
        }
    }

    static void promise09HandsBesideAreBad() {
        DiceCups x = Help.made(1, 2, 2, false);
        for (int h : new int[] {LOW, -1, 2, HIGH}) {
            due("hand " + h, x.weigh(0, 0, h, 0, 1, 1), BAD);
        }
        due("hand 3 of 2 dice", x.weigh(0, 1, 3, 0, 1, 1), BAD);
    }

    static void promise09PlayersBesideTheTwoAreBad() {
        DiceCups x = new DiceCups();
        for (int player : new int[] {LOW, -1, 2, HIGH}) {
            due("player " + player, x.weigh(0, player, 0, 0, 1, 1), BAD);
        }
    }

    static void promise09PlansBesideTheFourAreBad() {
        DiceCups x = new DiceCups();
        for (int plan : new int[] {LOW, -1, 4, HIGH}) {
            due("plan " + plan, x.weigh(plan, 0, 0, 0, 1, 1), BAD);
        }
    }

    static void promise09WeightsBesideZeroToTwentyAreBad() {
        DiceCups x = new DiceCups();
        for (int w : new int[] {LOW, -1, 21, HIGH}) {
            due("w " + w, x.weigh(0, 0, 0, 0, 1, w), BAD);
        }
    }

    static void promise09RefusedWeightsChangeNothing() {
        DiceCups x = Help.made(1, 3, 2, false);
        long before = x.digest();
        x.weigh(0, 0, 0, 3, 3, 9);
        x.weigh(0, 0, 0, 3, 2, 9);
        x.weigh(0, 0, 0, NONE, NONE, 9);
        x.weigh(0, 0, 0, 0, 8, 9);
        x.weigh(0, 0, 2, 0, 1, 9);
        x.weigh(0, 1, 4, 0, 1, 9);
        x.weigh(0, 0, 0, 0, 1, 21);
        x.weigh(4, 0, 0, 0, 1, 9);
        due("digest", x.digest(), before);
        due("worth", x.worth(0, 1), x.worth(2, 3));
    }

    static void promise09PlayersWithAsManyDiceShareAPlan() {
        DiceCups x = Help.made(2, 2, 2, false);
        due("player 0", x.weigh(2, 0, 1, 3, 5, 9), 1);
        due("player 1", x.weigh(2, 1, 1, 3, 5, 8), 9);
        due("player 0 again", x.weigh(2, 0, 1, 3, 5, 7), 8);
    }

    static void promise09PlayersWithOtherDiceDoNotShareAPlan() {
        DiceCups x = Help.made(1, 3, 2, false);
        due("player 0", x.weigh(2, 0, 1, 3, 5, 9), 1);
        due("player 1", x.weigh(2, 1, 1, 3, 5, 8), 1);
        due("player 0 again", x.weigh(2, 0, 1, 3, 5, 7), 9);
        due("player 1 again", x.weigh(2, 1, 1, 3, 5, 7), 8);
    }

    static void promise09EachWeightStandsAlone() {
        DiceCups x = Help.made(1, 1, 3, false);
        // Plans 0 and 3, hands 0 and 2, all last bids, all moves: told, then asked.
        for (int pass = 0; pass < 2; pass++) {
            int told = 0;
            for (int plan = 0; plan < 4; plan += 3) {
                for (int h = 0; h < 3; h += 2) {
                    for (int last = NONE; last < 6; last++) {
                        for (int move = CALL; move < 6; move++) {
                            if (Help.mayFollow(last, move)) {
                                due("weight", x.weigh(plan, 1, h, last, move, told % 21),
                                    pass == 0 ? 1 : told % 21);
                                told++;
                            }
                        }
                    }
                }
            }
        }
    }

    // ======== Promise 10: worth

    static void promise10PlansBesideTheFourAreMinusOne() {
        DiceCups x = new DiceCups();
        for (int plan : new int[] {LOW, -1, 4, HIGH}) {
            due("worth(" + plan + ", 0)", x.worth(plan, 0), -1);
            due("worth(0, " + plan + ")", x.worth(0, plan), -1);
            due("worth(" + plan + ", " + plan + ")", x.worth(plan, plan), -1);
        }
    }

    static void promise10TheLastPlanMayBe() {
        DiceCups x = new DiceCups();
        due("worth(3, 3)", x.worth(3, 3), Help.bits(0.5));
        due("worth(0, 0)", x.worth(0, 0), Help.bits(0.5));
    }

    static void promise10APlanMayPlayAgainstItself() {
        DiceCups x = new DiceCups();
        Help.only(x, 2, 0, 0, NONE, 0);
        Help.only(x, 2, 0, 1, NONE, 1);
        Help.alwaysCall(x, 2, 1);
        due("worth(2, 2)", x.worth(2, 2), Help.bits(1.0));
    }

    static void promise10TheFirstPlanIsThatOfPlayerZero() {
        DiceCups x = new DiceCups();
        Help.allOnly(x, 0, 0, NONE, 3);
        Help.allOnly(x, 1, 0, NONE, 0);
        Help.alwaysCall(x, 0, 1);
        Help.alwaysCall(x, 1, 1);
        due("worth(0, 1)", x.worth(0, 1), Help.bits(0.25));
        due("worth(1, 0)", x.worth(1, 0), Help.bits(0.75));
    }

    static void promise10WorthDoesNotHangOnTheRound() {
        DiceCups x = new DiceCups();
        long before = x.worth(0, 1);
        play(x, 2);
        due("in a round", x.worth(0, 1), before);
        x.move(CALL);
        due("behind a round", x.worth(0, 1), before);
    }

    static void promise10BitsOfSmallWorth() {
        DiceCups x = Help.made(1, 1, 4, false);
        Help.weights(x, 0, 0, 0, NONE, 0, 0, 0, 0, 1, 0, 0, 20);
        for (int h = 1; h < 4; h++) {
            Help.only(x, 0, 0, h, NONE, 4);
        }
        Help.alwaysCall(x, 1, 1);
        // Two of 0 by 1 of 21, where both have a 0.
        due("worth", x.worth(0, 1), Help.bits(1.0 / 21.0 / 16.0));
    }

    // ======== Promise 11: answer

    static void promise11PlayersBesideTheTwoAreMinusOne() {
        DiceCups x = new DiceCups();
        for (int player : new int[] {LOW, -1, 2, HIGH}) {
            due("answer(" + player + ", 0)", x.answer(player, 0), -1);
        }
    }

    static void promise11PlansBesideTheFourAreMinusOne() {
        DiceCups x = new DiceCups();
        for (int plan : new int[] {LOW, -1, 4, HIGH}) {
            due("answer(0, " + plan + ")", x.answer(0, plan), -1);
            due("answer(1, " + plan + ")", x.answer(1, plan), -1);
        }
    }

    static void promise11TheAnswerIsToAPlanOfTheOther() {
        DiceCups x = Help.made(1, 3, 2, false);
        Help.allOnly(x, 0, 0, NONE, 7);
        // Told for player 0's one die; for player 1's three dice the plan is as at first.
        due("answer(1, 0)", x.answer(1, 0), Help.bits(15.0 / 16.0));
        due("answer(0, 0)", x.answer(0, 0), x.answer(0, 3));
    }

    static void promise11TheAnswerIsAtLeastAsGoodAsEachPlan() {
        DiceCups x = new DiceCups();
        Help.weights(x, 1, 0, 0, NONE, 3, 1, 4, 1);
        Help.weights(x, 1, 0, 1, 2, 5, 9);
        Help.weights(x, 2, 0, 1, NONE, 2, 6, 5, 3);
        for (int p = 0; p < 4; p++) {
            for (int q = 0; q < 4; q++) {
                double worth = Double.longBitsToDouble(x.worth(p, q));
                CHECKS.sure("for player 0", Double.longBitsToDouble(x.answer(0, q)) >= worth);
                CHECKS.sure("for player 1",
                    Double.longBitsToDouble(x.answer(1, p)) >= 1.0 - worth - 1e-12);
            }
        }
    }

    // ======== Promise 12: opening

    static void promise12TheOpeningIsNeverCall() {
        for (int[] cups : Help.ALL_CUPS) {
            DiceCups x = Help.made(cups[0], cups[1], cups[2], true);
            for (int plan = 0; plan < 4; plan++) {
                for (int h = 0; h < x.hands(0); h++) {
                    CHECKS.sure("a bid", x.opening(plan, h) >= 0);
                }
            }
        }
    }

    static void promise12TheOpeningIsAgainstThePlanOfPlayerOne() {
        DiceCups x = Help.made(1, 3, 2, true);
        Help.alwaysCall(x, 2, 0);
        Help.alwaysCall(x, 3, 1);
        // Told for the one die of player 0, plan 2 is as at first for player 1.
        due("a 0 against plan 2", x.opening(2, 0), x.opening(1, 0));
        due("a 1 against plan 2", x.opening(2, 1), x.opening(1, 1));
        // Against CALL the least bid that is sure is taken.
        due("a 0 against CALL", x.opening(3, 0), 0);
        due("a 1 against CALL", x.opening(3, 1), 1);
        CHECKS.sure("plan 2 is another one", x.opening(2, 1) != 1);
    }

    static void promise12TheOpeningMayBeTheLeastBid() {
        DiceCups x = new DiceCups();
        Help.alwaysCall(x, 0, 1);
        due("opening", x.opening(0, 0), 0);
    }

    static void promise12TheOpeningMayBeTheGreatestBid() {
        DiceCups x = Help.made(1, 1, 2, true);
        for (int last = 0; last < 3; last++) {
            Help.allOnly(x, 0, 1, last, 3);
        }
        // Where 0 is wild two of 1 always holds, and is bid at once or by the other.
        due("the greatest", x.opening(0, 0), 3);
        due("the greatest with a 1", x.opening(0, 1), 3);
    }

    static void promise12PlansBesideTheFourAreBad() {
        DiceCups x = new DiceCups();
        for (int plan : new int[] {LOW, -1, 4, HIGH}) {
            due("opening(" + plan + ", 0)", x.opening(plan, 0), OFF_SCALE);
        }
    }

    static void promise12HandsBesideThoseOfPlayerZeroAreBad() {
        DiceCups x = Help.made(1, 3, 2, false);
        for (int h : new int[] {LOW, -1, 2, 3, HIGH}) {
            due("opening(0, " + h + ")", x.opening(0, h), OFF_SCALE);
        }
        CHECKS.sure("the last hand", x.opening(0, 1) >= 0);
        x.cups(3, 1, 2, false);
        due("opening(0, 4)", x.opening(0, 4), OFF_SCALE);
        CHECKS.sure("the last hand of 3 dice", x.opening(0, 3) >= 0);
    }

    // ======== Promise 13: reply

    static void promise13WhatThePlanNeverBidsIsCalled() {
        DiceCups x = Help.made(1, 1, 2, true);
        Help.allOnly(x, 0, 0, NONE, 0);
        Help.alwaysCall(x, 0, 0);
        // Behind bid 0 a 0 raises, for that holds; behind bid 1 the plan is not followed.
        due("reply to bid 0", x.reply(0, 0, 0), 1);
        for (int bid = 1; bid < 4; bid++) {
            due("reply to bid " + bid, x.reply(0, 0, bid), CALL);
            due("reply to bid " + bid + " with a 1", x.reply(0, 1, bid), CALL);
        }
    }

    static void promise13WhatOneHandAloneBidsIsAnswered() {
        DiceCups x = new DiceCups();
        Help.only(x, 0, 0, 0, NONE, 1);
        Help.only(x, 0, 0, 1, NONE, 0);
        Help.alwaysCall(x, 0, 0);
        // Bid 0 is made by a 1 alone: with a 0 one of 1 is sure, with a 1 CALL is.
        due("a 0", x.reply(0, 0, 0), 1);
        due("a 1", x.reply(0, 1, 0), CALL);
        // Bid 1 is made by a 0 alone: with a 1 it holds, and two of either do not.
        due("a 1 behind bid 1", x.reply(0, 1, 1), CALL);
        due("a 0 behind bid 1", x.reply(0, 0, 1), CALL);
    }

    static void promise13ABidOfWeightOneInTwentyIsAnswered() {
        DiceCups x = Help.made(1, 1, 2, true);
        Help.allOnly(x, 0, 0, NONE, 0);
        Help.weights(x, 0, 0, 1, NONE, 20, 1, 0, 0);
        Help.alwaysCall(x, 0, 0);
        // One of 1 comes from a 1 and holds; two of 1 holds too, by a wild 0 or a 1.
        due("reply to bid 1", x.reply(0, 0, 1), 3);
    }

    static void promise13WhereNoWeightIsLeftThePlanBidsZero() {
        DiceCups x = new DiceCups();
        Help.weights(x, 0, 0, 0, NONE);
        Help.weights(x, 0, 0, 1, NONE);
        Help.alwaysCall(x, 0, 0);
        due("reply to bid 0", x.reply(0, 1, 0), 1);
        due("reply to bid 1", x.reply(0, 1, 1), CALL);
    }

    static void promise13BehindTheGreatestBidTheReplyIsCall() {
        DiceCups x = Help.made(2, 2, 2, true);
        for (int h = 0; h < 3; h++) {
            due("reply", x.reply(0, h, 7), CALL);
        }
        Help.allOnly(x, 0, 0, NONE, 7);
        for (int h = 0; h < 3; h++) {
            due("reply to what holds", x.reply(0, h, 7), CALL);
        }
    }

    static void promise13PlansBesideTheFourAreBad() {
        DiceCups x = new DiceCups();
        for (int plan : new int[] {LOW, -1, 4, HIGH}) {
            due("reply(" + plan + ", 0, 0)", x.reply(plan, 0, 0), OFF_SCALE);
        }
    }

    static void promise13HandsBesideThoseOfPlayerOneAreBad() {
        DiceCups x = Help.made(3, 1, 2, false);
        for (int h : new int[] {LOW, -1, 2, 3, HIGH}) {
            due("reply(0, " + h + ", 0)", x.reply(0, h, 0), OFF_SCALE);
        }
        CHECKS.sure("the last hand", x.reply(0, 1, 0) >= CALL);
        x.cups(1, 3, 2, false);
        due("reply(0, 4, 0)", x.reply(0, 4, 0), OFF_SCALE);
        CHECKS.sure("the last hand of 3 dice", x.reply(0, 3, 0) >= CALL);
    }

    static void promise13BidsBesideAreBad() {
        DiceCups x = Help.made(1, 2, 2, false);
        for (int bid : new int[] {LOW, -2, -1, 6, HIGH}) {
            due("reply(0, 0, " + bid + ")", x.reply(0, 0, bid), OFF_SCALE);
        }
        CHECKS.sure("the last bid", x.reply(0, 0, 5) == CALL);
    }

    // ======== Promise 14: round

    static void promise14RoundTellsTheHandOfPlayerZero() {
        DiceCups x = Help.made(3, 1, 2, false);
        due("round(HIGH)", x.round(HIGH), 2);
        due("held(0)", x.held(0), 2);
        due("held(1)", x.held(1), 0);
    }

    static void promise14SeedZeroBegins() {
        DiceCups x = new DiceCups();
        due("round(0)", x.round(0), 0);
        due("who is to move", x.about(0), 0);
    }

    static void promise14SeedsBelowZeroAreBad() {
        DiceCups x = new DiceCups();
        due("round(-1)", x.round(-1), BAD);
        due("round(LOW)", x.round(LOW), BAD);
        due("no round began", x.about(0), NO);
    }

    static void promise14ARefusedRoundLeavesTheOneThatIs() {
        DiceCups x = Help.made(1, 1, 4, false);
        x.round(7);
        x.move(5);
        long before = x.digest();
        due("round(-1)", x.round(-1), BAD);
        due("digest", x.digest(), before);
        due("last bid", x.about(1), 5);
        due("held(1)", x.held(1), 2);
    }

    static void promise14ARoundThatGoesIsGoneAndNobodyWonIt() {
        DiceCups x = new DiceCups();
        play(x, 0, 3);
        due("round", x.round(8), x.held(0));
        CHECKS.rowDue("about", Help.abouts(x), 0, NONE, 0, NONE);
        due("won", x.count(5) + x.count(6), 0);
    }

    static void promise14ARoundThatIsOverIsGone() {
        DiceCups x = new DiceCups();
        play(x, 0, CALL);
        x.round(8);
        CHECKS.rowDue("about", Help.abouts(x), 0, NONE, 0, NONE);
        due("won", x.count(5), 1);
        due("a move may be", x.move(0), 0);
    }

    static void promise14ARoundLeavesWeights() {
        DiceCups x = new DiceCups();
        x.weigh(0, 0, 0, NONE, 0, 9);
        play(x, 1);
        due("weight", x.weigh(0, 0, 0, NONE, 0, 9), 9);
    }

    // ======== Promise 15: held

    static void promise15WhereThereWasNoRoundIsNo() {
        DiceCups x = new DiceCups();
        due("held(0)", x.held(0), NO);
        due("held(1)", x.held(1), NO);
    }

    static void promise15PlayersBesideTheTwoAreBadAheadOfNo() {
        DiceCups x = new DiceCups();
        for (int player : new int[] {LOW, -1, 2, HIGH}) {
            due("without a round", x.held(player), BAD);
        }
        x.round(7);
        for (int player : new int[] {LOW, -1, 2, HIGH}) {
            due("in a round", x.held(player), BAD);
        }
    }

    static void promise15HandsOfARoundThatIsOverAreTold() {
        DiceCups x = Help.made(1, 1, 4, false);
        x.round(7);
        x.move(7);
        x.move(CALL);
        due("held(0)", x.held(0), 0);
        due("held(1)", x.held(1), 2);
    }

    static void promise15TheLastHandMayBeHeld() {
        DiceCups x = Help.made(1, 1, 4, false);
        boolean[] seen = new boolean[8];
        for (int seed = 0; seed < 100; seed++) {
            x.round(seed);
            seen[x.held(0)] = true;
            seen[4 + x.held(1)] = true;
        }
        for (int i = 0; i < 8; i++) {
            CHECKS.sure("hand " + i % 4 + " of player " + i / 4 + " is seen", seen[i]);
        }
    }

    // ======== Promise 16: move

    static void promise16BidsGoOn() {
        DiceCups x = new DiceCups();
        play(x);
        for (int bid = 0; bid < 4; bid++) {
            due("move(" + bid + ")", x.move(bid), 0);
        }
    }

    static void promise16OneIsThatPlayerZeroWon() {
        DiceCups x = new DiceCups();
        play(x, 0);
        due("CALL of what holds", x.move(NONE), 1);
        play(x, 1, 3);
        due("CALL of what fails", x.move(NONE), 1);
        due("won by 0", x.count(5), 2);
        due("won by 1", x.count(6), 0);
    }

    static void promise16TwoIsThatPlayerOneWon() {
        DiceCups x = new DiceCups();
        play(x, 3);
        due("CALL of what fails", x.move(NONE), 2);
        play(x, 1, 2);
        due("CALL of what holds", x.move(NONE), 2);
        due("won by 0", x.count(5), 0);
        due("won by 1", x.count(6), 2);
    }

    static void promise16NoBidIsBad() {
        DiceCups x = new DiceCups();
        play(x);
        for (int m : new int[] {LOW, -100, -3, -2, 4, 5, HIGH}) {
            due("move(" + m + ")", x.move(m), BAD);
        }
        CHECKS.rowDue("about", Help.abouts(x), 0, NONE, 0, NONE);
    }

    static void promise16NoBidIsBadAheadOfNo() {
        DiceCups x = new DiceCups();
        due("-2 without a round", x.move(-2), BAD);
        due("4 without a round", x.move(4), BAD);
        play(x, 3, CALL);
        due("-2 in one that is over", x.move(-2), BAD);
        due("4 in one that is over", x.move(4), BAD);
        play(x, 3);
        due("4 behind the greatest", x.move(4), BAD);
    }

    static void promise16WithoutARoundIsNo() {
        DiceCups x = new DiceCups();
        due("move(0)", x.move(0), NO);
        due("move(3)", x.move(3), NO);
        due("move(-1)", x.move(NONE), NO);
    }

    static void promise16InARoundThatIsOverIsNo() {
        DiceCups x = new DiceCups();
        play(x, 0, CALL);
        due("move(1)", x.move(1), NO);
        due("move(3)", x.move(3), NO);
        due("move(-1)", x.move(NONE), NO);
        due("won once", x.count(5) + x.count(6), 1);
    }

    static void promise16WhatMayNotBeIsNo() {
        DiceCups x = new DiceCups();
        play(x);
        due("CALL as the first", x.move(NONE), NO);
        x.move(2);
        due("the same bid", x.move(2), NO);
        due("a bid below", x.move(1), NO);
        x.move(3);
        due("the greatest again", x.move(3), NO);
        due("zero behind the greatest", x.move(0), NO);
    }

    static void promise16RefusedMovesChangeNothing() {
        DiceCups x = new DiceCups();
        play(x, 2);
        long before = x.digest();
        x.move(2);
        x.move(0);
        x.move(4);
        x.move(-2);
        due("digest", x.digest(), before);
        CHECKS.rowDue("about", Help.abouts(x), 1, 2, 1, NONE);
    }

    static void promise16MovesLookAtTheHandsOfTheRound() {
        DiceCups x = Help.made(1, 1, 4, true);
        // 2 and 2.
        x.round(1);
        x.move(6);
        due("two of 2", x.move(CALL), 1);
        x.round(1);
        x.move(7);
        due("two of 3", x.move(CALL), 2);
        // 0 and 2: a wild 0.
        x.round(7);
        x.move(6);
        due("two of 2 with a wild 0", x.move(CALL), 1);
        x.cups(1, 1, 4, false);
        x.round(7);
        x.move(6);
        due("two of 2 with a 0 that is not wild", x.move(CALL), 2);
    }

    static void promise16MovesLookAtHandsOfOtherDiceToo() {
        int[][] all = {{1, 3, 2}, {3, 1, 2}, {2, 1, 2}, {1, 2, 2}};
        for (int[] cups : all) {
            for (int seed = 0; seed < 8; seed++) {
                DiceCups x = Help.made(cups[0], cups[1], cups[2], false);
                for (int bid = 0; bid < x.count(4); bid++) {
                    x.round(seed);
                    x.move(bid);
                    int holds = x.holds(x.held(0), x.held(1), bid);
                    due("CALL of " + bid, x.move(CALL), holds == 1 ? 1 : 2);
                }
            }
        }
    }

    // ======== Promise 17: about

    static void promise17AtFirstThereIsNoLastBidAndNobodyWon() {
        DiceCups x = new DiceCups();
        play(x);
        due("who is to move", x.about(0), 0);
        due("last bid", x.about(1), NONE);
        due("bids made", x.about(2), 0);
        due("who won", x.about(3), NONE);
    }

    static void promise17BidZeroIsALastBid() {
        DiceCups x = new DiceCups();
        play(x, 0);
        due("who is to move", x.about(0), 1);
        due("last bid", x.about(1), 0);
        due("bids made", x.about(2), 1);
        due("who won", x.about(3), NONE);
    }

    static void promise17WhenItIsOverNobodyIsToMove() {
        DiceCups x = new DiceCups();
        play(x, 0, CALL);
        due("who is to move", x.about(0), NONE);
        play(x, 0, 3, CALL);
        due("who is to move", x.about(0), NONE);
    }

    static void promise17WhenItIsOverTheLastBidStays() {
        DiceCups x = new DiceCups();
        play(x, 1, 3, CALL);
        due("last bid", x.about(1), 3);
    }

    static void promise17CallIsNotAmongTheBidsMade() {
        DiceCups x = new DiceCups();
        play(x, 1, 3, CALL);
        due("bids made", x.about(2), 2);
    }

    static void promise17RefusedBidsAreNotAmongTheBidsMade() {
        DiceCups x = new DiceCups();
        play(x, 1, 1, 0, 4, 3);
        due("bids made", x.about(2), 2);
    }

    static void promise17AllBidsMayBeMade() {
        DiceCups x = Help.made(1, 1, 4, false);
        play(x, 0, 1, 2, 3, 4, 5, 6, 7);
        due("bids made", x.about(2), 8);
        due("who is to move", x.about(0), 0);
        due("last bid", x.about(1), 7);
    }

    static void promise17WhoWonIsZeroOrOne() {
        DiceCups x = new DiceCups();
        play(x, 0, CALL);
        due("who won", x.about(3), 0);
        play(x, 3, CALL);
        due("who won", x.about(3), 1);
    }

    static void promise17WhatBesideIsBadAheadOfNo() {
        DiceCups x = new DiceCups();
        for (int what : new int[] {LOW, -1, 4, HIGH}) {
            due("without a round", x.about(what), BAD);
        }
        play(x);
        for (int what : new int[] {LOW, -1, 4, HIGH}) {
            due("in a round", x.about(what), BAD);
        }
    }

    static void promise17WhereThereWasNoRoundIsNo() {
        DiceCups x = new DiceCups();
        for (int what = 0; what < 4; what++) {
            due("about(" + what + ")", x.about(what), NO);
        }
    }

    // ======== Promise 18: count

    static void promise18CountsOfTheCups() {
        CHECKS.rowDue("1 and 3", Help.counts(Help.made(1, 3, 2, true)), 1, 3, 2, 1, 8, 0, 0);
        CHECKS.rowDue("3 and 1", Help.counts(Help.made(3, 1, 2, false)), 3, 1, 2, 0, 8, 0, 0);
        CHECKS.rowDue("three pips", Help.counts(Help.made(1, 1, 3, true)), 1, 1, 3, 1, 6, 0, 0);
    }

    static void promise18RoundsWonAreCountedApart() {
        DiceCups x = new DiceCups();
        play(x, 0, CALL);
        due("won by 0", x.count(5), 1);
        due("won by 1", x.count(6), 0);
        play(x, 3, CALL);
        due("won by 0", x.count(5), 1);
        due("won by 1", x.count(6), 1);
    }

    static void promise18RoundsThatGoAreNotWon() {
        DiceCups x = new DiceCups();
        play(x, 0, 3);
        due("won by 0", x.count(5), 0);
        due("won by 1", x.count(6), 0);
    }

    static void promise18WhatBesideIsBad() {
        DiceCups x = new DiceCups();
        for (int what : new int[] {LOW, -1, 7, 8, HIGH}) {
            due("count(" + what + ")", x.count(what), BAD);
        }
    }

    // ======== Promise 19: digest

    /** 191, and then each number in turn. */
    private static long mixed(long start, int... numbers) {
        long h = start;
        for (int v : numbers) {
            h = 31L * h + v;
        }
        return h;
    }

    private static long mixedOnes(long start, int howMany) {
        long h = start;
        for (int i = 0; i < howMany; i++) {
            h = 31L * h + 1L;
        }
        return h;
    }

    static void promise19WithoutARoundTheDigestEndsWithTheWeights() {
        // Weights by place: 4 at first, then 4, 3, 2 and 1; two hands, two players, four plans.
        long want = mixedOnes(mixed(191L, 1, 1, 2, 0, 4, 0, 0), 14 * 2 * 2 * 4);
        due("digest", new DiceCups().digest(), want);
    }

    static void promise19TheDigestWrapsAround() {
        // 8 at first, then 8 to 1: 44 for each of 2 + 4 hands of four plans.
        long want = mixedOnes(mixed(191L, 1, 3, 2, 1, 8, 0, 0), 44 * 6 * 4);
        due("digest", Help.made(1, 3, 2, true).digest(), want);
        due("digest", Help.made(3, 1, 2, true).digest(),
            mixedOnes(mixed(191L, 3, 1, 2, 1, 8, 0, 0), 44 * 6 * 4));
    }

    static void promise19ARoundThatGoesIsInTheDigest() {
        DiceCups x = Help.made(1, 1, 4, false);
        long weights = x.digest();
        x.round(7);
        due("at first", x.digest(), mixed(weights, 0, NONE, 0, NONE, 0, 2));
        x.move(6);
        due("behind a bid", x.digest(), mixed(weights, 1, 6, 1, NONE, 0, 2));
    }

    static void promise19ARoundThatIsOverIsInTheDigest() {
        DiceCups x = new DiceCups();
        play(x, 1, 3, CALL);
        long weights = mixedOnes(mixed(191L, 1, 1, 2, 0, 4, 1, 0), 14 * 2 * 2 * 4);
        due("digest", x.digest(), mixed(weights, NONE, 3, 2, 0, 0, 0));
    }

    static void promise19BehindCupsNoRoundIsInTheDigest() {
        DiceCups x = new DiceCups();
        long before = x.digest();
        play(x, 1);
        x.cups(1, 1, 2, false);
        due("digest", x.digest(), before);
    }

    static void promise19RoundsWonAreInTheDigest() {
        DiceCups x = new DiceCups();
        play(x, 0, CALL);
        play(x, 3, CALL);
        play(x, 3, CALL);
        x.cups(1, 1, 2, false);
        due("digest", x.digest(), mixedOnes(mixed(191L, 1, 1, 2, 0, 4, 1, 2), 14 * 2 * 2 * 4));
    }

    /** The digest of cups with other dice, where one weight of the row is told. */
    private static long withWeight(int place, int w) {
        long h = mixed(191L, 1, 2, 2, 0, 6, 0, 0);
        return mixedOnes(mixed(mixedOnes(h, place), w), 27 * 5 * 4 - place - 1);
    }

    static void promise19WeightsStandInTheirOrder() {
        // By place: 6 at first, then 6 to 1, 27 in all; by hand: 2 of player 0, 3 of player 1.
        weightDue(0, 0, 0, 0, NONE, 0);
        weightDue(5, 0, 0, 0, NONE, 5);
        weightDue(6, 0, 0, 0, 0, CALL);
        weightDue(7, 0, 0, 0, 0, 1);
        weightDue(26, 0, 0, 0, 5, CALL);
        weightDue(27, 0, 0, 1, NONE, 0);
        weightDue(2 * 27, 0, 1, 0, NONE, 0);
        weightDue(3 * 27 + 6 + 6, 0, 1, 1, 1, CALL);
        weightDue(5 * 27, 1, 0, 0, NONE, 0);
        weightDue(4 * 5 * 27 - 1, 3, 1, 2, 5, CALL);
    }

    private static void weightDue(int place, int plan, int player, int h, int last, int move) {
        DiceCups x = Help.made(1, 2, 2, false);
        due("weight of place " + place, x.weigh(plan, player, h, last, move, 17), 1);
        due("digest with place " + place, x.digest(), withWeight(place, 17));
    }

    static void promise19SharedWeightsAreToldOfBothPlayers() {
        DiceCups x = new DiceCups();
        x.weigh(0, 1, 0, NONE, 0, 17);
        long h = mixed(mixed(191L, 1, 1, 2, 0, 4, 0, 0), 17);
        h = mixed(mixedOnes(h, 27), 17);
        due("digest", x.digest(), mixedOnes(h, 27 + 28 * 6));
    }

    static void promise19WeightsThatAreAllZeroAreToldAsZero() {
        DiceCups x = Help.made(1, 2, 2, false);
        x.weigh(3, 1, 2, 5, CALL, 0);
        due("digest", x.digest(), withWeight(4 * 5 * 27 - 1, 0));
    }

    static void promise19TheDigestChangesNothing() {
        DiceCups x = Help.made(2, 2, 2, true);
        x.round(1);
        due("digest again", x.digest(), x.digest());
        due("the round goes on", x.move(0), 0);
    }
}
