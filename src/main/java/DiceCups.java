import java.util.Arrays;

/** Dice under cups: bids, chances, plans by weights, the best answer to a plan, and rounds. */
public final class DiceCups {
    public static final int NONE = -1, BAD = -2, NO = -3;

    private static final int CALL = -1;
    private static final int OFF_SCALE = -100;
    private static final int PLAYERS = 2;
    private static final int PLANS = 4;
    private static final int MOST_DICE = 3;
    private static final int LEAST_FACES = 2;
    private static final int MOST_FACES = 4;
    private static final int MOST_BIDS = 8;
    // Behind the limit on bids no cup has more: 3 dice of 2 pips have 4, and so has 1 die of 4.
    private static final int MOST_HANDS = 4;
    private static final int MOST_WEIGHT = 20;
    private static final int MOST_CHANCE = 100;
    private static final int COUNTS = 7;
    private static final int ABOUTS = 4;
    // NONE stands ahead of the bids as a last bid, and CALL as a move.
    private static final int SPOTS = MOST_BIDS + 1;

    private final Table table;
    private final Plans plans;
    private final Match match;
    private final Answering answering;
    private final Game game;

    public DiceCups() {
        table = new Table();
        plans = new Plans();
        match = new Match(table);
        answering = new Answering(table);
        game = new Game(table);
        table.lay(1, 1, LEAST_FACES, false);
    }

    public int cups(int d0, int d1, int faces, boolean wild) {
        if (!within(d0, 1, MOST_DICE) || !within(d1, 1, MOST_DICE)) {
            return BAD;
        }
        if (!within(faces, LEAST_FACES, MOST_FACES) || (d0 + d1) * faces > MOST_BIDS) {
            return BAD;
        }
        table.lay(d0, d1, faces, wild);
        plans.reset();
        game.forget();
        return table.bids;
    }

    public int hands(int player) {
        return isPlayer(player) ? table.cup(player).size : BAD;
    }

    public int hand(int player, int h, int face) {
        if (!isHand(player, h) || !within(face, 0, table.faces - 1)) {
            return OFF_SCALE;
        }
        return table.cup(player).pipsOf(h, face);
    }

    public int throwsOf(int player, int h) {
        return isHand(player, h) ? table.cup(player).waysOf(h) : BAD;
    }

    public int holds(int g, int h, int bid) {
        if (!isHand(0, g) || !isHand(1, h) || !isBid(bid)) {
            return BAD;
        }
        return table.isTrue(g, h, bid) ? 1 : 0;
    }

    public int chance(int player, int h, int bid, int what) {
        if (!isHand(player, h) || !isBid(bid) || !within(what, 0, 1)) {
            return BAD;
        }
        int above = table.waysToHold(player, h, bid);
        int below = table.cup(1 - player).allWays();
        int common = commonDivisor(above, below);
        return cut(what == 0 ? above : below, common);
    }

    public int surest(int player, int h, int a, int b) {
        if (!isHand(player, h) || !within(a, 1, MOST_CHANCE) || !within(b, 1, MOST_CHANCE)) {
            return BAD;
        }
        int below = table.cup(1 - player).allWays();
        for (int bid = table.bids - 1; bid >= 0; bid--) {
            if (table.waysToHold(player, h, bid) * b >= a * below) {
                return bid;
            }
        }
        return NONE;
    }

    public int weigh(int plan, int player, int h, int last, int move, int w) {
        if (!isPlan(plan) || !isHand(player, h) || !isBidOrNone(last)) {
            return BAD;
        }
        if (!isBidOrNone(move) || !mayFollow(last, move) || !within(w, 0, MOST_WEIGHT)) {
            return BAD;
        }
        return plans.change(plans.spot(plan, table.cup(player).dice, h, last, move), w);
    }

    public long worth(int p, int q) {
        if (!isPlan(p) || !isPlan(q)) {
            return -1L;
        }
        return bitsOf(match.play(plans, p, q));
    }

    public long answer(int player, int plan) {
        if (!isPlayer(player) || !isPlan(plan)) {
            return -1L;
        }
        answering.study(plans, plan, player);
        return bitsOf(answering.winnings());
    }

    public int opening(int plan, int h) {
        if (!isPlan(plan) || !isHand(0, h)) {
            return OFF_SCALE;
        }
        answering.study(plans, plan, 0);
        return answering.firstMove(h);
    }

    public int reply(int plan, int h, int bid) {
        if (!isPlan(plan) || !isHand(1, h) || !isBid(bid)) {
            return OFF_SCALE;
        }
        answering.study(plans, plan, 1);
        return answering.moveBehind(h, bid);
    }

    public int round(int seed) {
        if (seed < 0) {
            return BAD;
        }
        game.begin(seed);
        return game.handOf(0);
    }

    public int held(int player) {
        if (!isPlayer(player)) {
            return BAD;
        }
        return game.there ? game.handOf(player) : NO;
    }

    public int move(int m) {
        if (!isBidOrNone(m)) {
            return BAD;
        }
        if (!game.goesOn() || !mayFollow(game.last, m)) {
            return NO;
        }
        if (m == CALL) {
            game.end();
            return game.winner + 1;
        }
        game.bid(m);
        return 0;
    }

    public int about(int what) {
        if (!within(what, 0, ABOUTS - 1)) {
            return BAD;
        }
        return game.there ? game.fact(what) : NO;
    }

    public int count(int what) {
        switch (what) {
            case 0: return table.cup(0).dice;
            case 1: return table.cup(1).dice;
            case 2: return table.faces;
            case 3: return table.wild ? 1 : 0;
            case 4: return table.bids;
            case 5: return game.wonByFirst;
            case 6: return game.wonBySecond;
            default: return BAD;
        }
    }

    public long digest() {
        long h = 191L;
        for (int what = 0; what < COUNTS; what++) {
            h = 31L * h + count(what);
        }
        for (int plan = 0; plan < PLANS; plan++) {
            for (int player = 0; player < PLAYERS; player++) {
                h = plans.mix(h, plan, table.cup(player), table.bids);
            }
        }
        if (!game.there) {
            return h;
        }
        for (int what = 0; what < ABOUTS; what++) {
            h = 31L * h + game.fact(what);
        }
        h = 31L * h + game.handOf(0);
        return 31L * h + game.handOf(1);
    }

    private static boolean within(int x, int least, int most) {
        return x >= least && x <= most;
    }

    private static boolean isPlayer(int player) {
        return within(player, 0, PLAYERS - 1);
    }

    private static boolean isPlan(int plan) {
        return within(plan, 0, PLANS - 1);
    }

    private boolean isHand(int player, int h) {
        return isPlayer(player) && within(h, 0, table.cup(player).size - 1);
    }

    private boolean isBid(int bid) {
        return within(bid, 0, table.bids - 1);
    }

    private boolean isBidOrNone(int bid) {
        return bid == NONE || isBid(bid);
    }

    private static boolean mayFollow(int last, int move) {
        return move == CALL ? last != NONE : move > last;
    }

    private static int at(int[] row, int i) {
        return i >= 0 && i < row.length ? row[i] : 0;
    }

    private static void put(int[] row, int i, int value) {
        if (i >= 0 && i < row.length) {
            row[i] = value;
        }
    }

    private static double realAt(double[] row, int i) {
        return i >= 0 && i < row.length ? row[i] : 0.0;
    }

    private static void putReal(double[] row, int i, double value) {
        if (i >= 0 && i < row.length) {
            row[i] = value;
        }
    }

    private static int cut(int a, int b) {
        return b > 0 ? a / b : 0;
    }

    private static int leftOver(int a, int b) {
        return b > 0 ? a % b : 0;
    }

    private static int commonDivisor(int a, int b) {
        int large = b;
        int small = a;
        // The smaller one at least halves in two steps, so that 64 are enough for any int.
        for (int step = 0; step < 64 && small > 0; step++) {
            int rest = leftOver(large, small);
            large = small;
            small = rest;
        }
        return large;
    }

    /**
     * The bits of a double that is not below 0. The library that may be used has no call for
     * them; halving and doubling are exact, so that the 53 digits come out as they stand.
     */
    private static long bitsOf(double value) {
        double x = value > 0.0 ? value : 0.0;
        long exponent = 1023L;
        while (x >= 2.0 && exponent < 2046L) {
            x = x / 2.0;
            exponent++;
        }
        while (x < 1.0 && exponent > 1L) {
            x = x * 2.0;
            exponent--;
        }
        // A digit of 1 ahead of the point counts one on to the exponent; that of 0.0 stays out.
        return ((exponent - 1L) << 52) + (long) (x * 4503599627370496.0);
    }

    /** What may lie under one cup: the hands in their order, and the throws of each. */
    private static final class Cup {
        private final int[] pips = new int[MOST_HANDS * MOST_FACES];
        private final int[] ways = new int[MOST_HANDS];
        private final int[] row = new int[MOST_DICE];
        private int dice;
        private int faces;
        private int size;

        void fill(int newDice, int newFaces) {
            dice = newDice;
            faces = newFaces;
            size = 0;
            Arrays.fill(pips, 0);
            Arrays.fill(row, 0);
            boolean more = true;
            while (more && size < MOST_HANDS) {
                writeHand(size);
                size++;
                more = stepRow();
            }
        }

        private void writeHand(int h) {
            for (int i = 0; i < dice; i++) {
                int spot = spotOf(h, at(row, i));
                put(pips, spot, at(pips, spot) + 1);
            }
            int orders = factorial(dice);
            for (int face = 0; face < faces; face++) {
                orders = cut(orders, factorial(pipsOf(h, face)));
            }
            put(ways, h, orders);
        }

        /** The next row that does not fall; false behind the last one. */
        private boolean stepRow() {
            for (int i = dice - 1; i >= 0; i--) {
                int next = at(row, i) + 1;
                if (next < faces) {
                    for (int k = i; k < dice; k++) {
                        put(row, k, next);
                    }
                    return true;
                }
            }
            return false;
        }

        private static int factorial(int n) {
            int product = 1;
            for (int i = 2; i <= n; i++) {
                product *= i;
            }
            return product;
        }

        private static int spotOf(int h, int face) {
            return h * MOST_FACES + face;
        }

        int pipsOf(int h, int face) {
            return at(pips, spotOf(h, face));
        }

        int waysOf(int h) {
            return at(ways, h);
        }

        int allWays() {
            int product = 1;
            for (int i = 0; i < dice; i++) {
                product *= faces;
            }
            return product;
        }

        int find(int[] thrown) {
            for (int h = 0; h < size; h++) {
                if (isLike(h, thrown)) {
                    return h;
                }
            }
            return 0;
        }

        private boolean isLike(int h, int[] thrown) {
            for (int face = 0; face < faces; face++) {
                if (pipsOf(h, face) != at(thrown, face)) {
                    return false;
                }
            }
            return true;
        }
    }

    /** The two cups and the bids on their dice. */
    private static final class Table {
        private final Cup first = new Cup();
        private final Cup second = new Cup();
        private final int[] truths = new int[MOST_HANDS * MOST_HANDS * MOST_BIDS];
        private int faces;
        private int bids;
        private boolean wild;

        void lay(int d0, int d1, int newFaces, boolean newWild) {
            faces = newFaces;
            wild = newWild;
            bids = (d0 + d1) * newFaces;
            first.fill(d0, newFaces);
            second.fill(d1, newFaces);
            judgeBids();
        }

        private void judgeBids() {
            for (int g = 0; g < first.size; g++) {
                for (int h = 0; h < second.size; h++) {
                    for (int bid = 0; bid < bids; bid++) {
                        judge(g, h, bid);
                    }
                }
            }
        }

        private void judge(int g, int h, int bid) {
            int face = leftOver(bid, faces);
            int needed = cut(bid, faces) + 1;
            int there = countsFor(first, g, face) + countsFor(second, h, face);
            put(truths, spotOf(g, h, bid), there >= needed ? 1 : 0);
        }

        private int countsFor(Cup cup, int h, int face) {
            int own = cup.pipsOf(h, face);
            return wild && face > 0 ? own + cup.pipsOf(h, 0) : own;
        }

        private static int spotOf(int g, int h, int bid) {
            return (g * MOST_HANDS + h) * MOST_BIDS + bid;
        }

        Cup cup(int player) {
            return player == 0 ? first : second;
        }

        boolean isTrue(int g, int h, int bid) {
            return at(truths, spotOf(g, h, bid)) == 1;
        }

        /** Whether a bid holds where a player's own hand is told first. */
        boolean isTrueFor(int player, int own, int other, int bid) {
            return player == 0 ? isTrue(own, other, bid) : isTrue(other, own, bid);
        }

        int waysToHold(int player, int h, int bid) {
            Cup other = cup(1 - player);
            int sum = 0;
            for (int k = 0; k < other.size; k++) {
                if (isTrueFor(player, h, k, bid)) {
                    sum += other.waysOf(k);
                }
            }
            return sum;
        }

        /** A sum over all throws of both cups, made a mean. */
        double meanOf(double sum) {
            double all = (double) (first.allWays() * second.allWays());
            return all > 0.0 ? sum / all : 0.0;
        }
    }

    /** The weights of all plans, by how many dice who uses the plan has. */
    private static final class Plans {
        private final int[] weights = new int[PLANS * MOST_DICE * MOST_HANDS * SPOTS * SPOTS];

        Plans() {
            Arrays.fill(weights, 1);
        }

        void reset() {
            Arrays.fill(weights, 1);
        }

        int spot(int plan, int dice, int h, int last, int move) {
            int own = (plan * MOST_DICE + dice - 1) * MOST_HANDS + h;
            return (own * SPOTS + last + 1) * SPOTS + move + 1;
        }

        int change(int spot, int w) {
            int was = at(weights, spot);
            put(weights, spot, w);
            return was;
        }

        int weightAt(int spot) {
            return at(weights, spot);
        }

        long mix(long start, int plan, Cup cup, int bids) {
            long h = start;
            for (int g = 0; g < cup.size; g++) {
                for (int last = NONE; last < bids; last++) {
                    for (int move = CALL; move < bids; move++) {
                        if (mayFollow(last, move)) {
                            h = 31L * h + weightAt(spot(plan, cup.dice, g, last, move));
                        }
                    }
                }
            }
            return h;
        }
    }

    /** For one plan under one cup: each move's weight by the sum of all weights there. */
    private static final class Shares {
        private final double[] shares = new double[MOST_HANDS * SPOTS * SPOTS];

        void take(Plans plans, int plan, Cup cup, int bids) {
            Arrays.fill(shares, 0.0);
            for (int h = 0; h < cup.size; h++) {
                for (int last = NONE; last < bids; last++) {
                    takeMoves(plans, plans.spot(plan, cup.dice, h, last, CALL), h, last, bids);
                }
            }
        }

        private void takeMoves(Plans plans, int spotOfCall, int h, int last, int bids) {
            int total = 0;
            for (int move = CALL; move < bids; move++) {
                if (mayFollow(last, move)) {
                    total += plans.weightAt(spotOfCall + 1 + move);
                }
            }
            if (total <= 0) {
                int firstMove = last == NONE ? 0 : CALL;
                putReal(shares, spotOf(h, last, firstMove), 1.0);
                return;
            }
            for (int move = CALL; move < bids; move++) {
                if (mayFollow(last, move)) {
                    double w = (double) plans.weightAt(spotOfCall + 1 + move);
                    putReal(shares, spotOf(h, last, move), w / (double) total);
                }
            }
        }

        private static int spotOf(int h, int last, int move) {
            return (h * SPOTS + last + 1) * SPOTS + move + 1;
        }

        double of(int h, int last, int move) {
            return realAt(shares, spotOf(h, last, move));
        }
    }

    /** Two plans against one another. */
    private static final class Match {
        private final Table table;
        private final Shares firstShares = new Shares();
        private final Shares secondShares = new Shares();
        // What player 0 wins behind a last bid does not hang on the bids ahead of it.
        private final double[] behind = new double[PLAYERS * MOST_BIDS];

        Match(Table table) {
            this.table = table;
        }

        double play(Plans plans, int p, int q) {
            Cup first = table.cup(0);
            Cup second = table.cup(1);
            firstShares.take(plans, p, first, table.bids);
            secondShares.take(plans, q, second, table.bids);
            double sum = 0.0;
            for (int g = 0; g < first.size; g++) {
                for (int h = 0; h < second.size; h++) {
                    double ways = (double) (first.waysOf(g) * second.waysOf(h));
                    sum = sum + ways * expected(g, h);
                }
            }
            return table.meanOf(sum);
        }

        private double expected(int g, int h) {
            for (int last = table.bids - 1; last >= 0; last--) {
                for (int mover = 0; mover < PLAYERS; mover++) {
                    putReal(behind, last * PLAYERS + mover, expectedAt(g, h, last, mover));
                }
            }
            return expectedAt(g, h, NONE, 0);
        }

        private double expectedAt(int g, int h, int last, int mover) {
            Shares shares = mover == 0 ? firstShares : secondShares;
            int own = mover == 0 ? g : h;
            double e = 0.0;
            double called = shares.of(own, last, CALL);
            if (called > 0.0) {
                boolean firstWins = (mover == 1) == table.isTrue(g, h, last);
                e = e + called * (firstWins ? 1.0 : 0.0);
            }
            for (int bid = last + 1; bid < table.bids; bid++) {
                double share = shares.of(own, last, bid);
                if (share > 0.0) {
                    e = e + share * realAt(behind, bid * PLAYERS + 1 - mover);
                }
            }
            return e;
        }
    }

    /** The best answer of one player to a plan of the other one. */
    private static final class Answering {
        private final Table table;
        private final Shares shares = new Shares();
        // A row for each move that the other one has made: how far each hand of his is reached.
        private final double[] reach = new double[(SPOTS + 1) * MOST_HANDS];
        private int player;
        private int own;
        private int chosen;

        Answering(Table table) {
            this.table = table;
        }

        void study(Plans plans, int plan, int newPlayer) {
            player = newPlayer;
            shares.take(plans, plan, other(), table.bids);
        }

        double winnings() {
            Cup cup = table.cup(player);
            double sum = 0.0;
            for (int g = 0; g < cup.size; g++) {
                hold(g);
                sum = sum + (double) cup.waysOf(g) * value(NONE, 0, 0, 0);
            }
            return table.meanOf(sum);
        }

        int firstMove(int h) {
            hold(h);
            value(NONE, 0, 0, 0);
            return chosen;
        }

        int moveBehind(int h, int bid) {
            hold(h);
            if (!follow(NONE, bid, 0)) {
                return CALL;
            }
            value(bid, 1, 1, 1);
            return chosen;
        }

        private Cup other() {
            return table.cup(1 - player);
        }

        private void hold(int h) {
            own = h;
            chosen = CALL;
            Cup cup = other();
            for (int k = 0; k < cup.size; k++) {
                putReal(reach, k, (double) cup.waysOf(k));
            }
        }

        /** What is won where a mover moves behind a last bid, with the other's hands as in a row. */
        private double value(int last, int mover, int row, int depth) {
            // Each bid is above the one ahead of it, so that no more can stand open.
            if (depth > MOST_BIDS) {
                return 0.0;
            }
            return mover == player ? ownValue(last, row, depth) : otherValue(last, row, depth);
        }

        private double ownValue(int last, int row, int depth) {
            int best = last == NONE ? 0 : CALL;
            double most = 0.0;
            if (best == CALL) {
                most = addCallWins(0.0, player, last, row);
            } else {
                most = value(0, 1 - player, row, depth + 1);
            }
            for (int bid = last == NONE ? 1 : last + 1; bid < table.bids; bid++) {
                double won = value(bid, 1 - player, row, depth + 1);
                if (won > most) {
                    most = won;
                    best = bid;
                }
            }
            // Deeper moves were noted ahead of this one, so that the first move is noted last.
            chosen = best;
            return most;
        }

        private double otherValue(int last, int row, int depth) {
            double v = 0.0;
            if (last != NONE && follow(last, CALL, row)) {
                v = addCallWins(v, 1 - player, last, row + 1);
            }
            for (int bid = last + 1; bid < table.bids; bid++) {
                if (follow(last, bid, row)) {
                    v = v + value(bid, player, row + 1, depth + 1);
                }
            }
            return v;
        }

        /** Writes the row behind a move of the other one; false if no hand of his makes it. */
        private boolean follow(int last, int move, int row) {
            boolean any = false;
            int size = other().size;
            for (int k = 0; k < size; k++) {
                double next = realAt(reach, row * MOST_HANDS + k) * shares.of(k, last, move);
                putReal(reach, (row + 1) * MOST_HANDS + k, next);
                if (next > 0.0) {
                    any = true;
                }
            }
            return any;
        }

        private double addCallWins(double start, int caller, int last, int row) {
            double sum = start;
            int size = other().size;
            for (int k = 0; k < size; k++) {
                if ((caller == player) != table.isTrueFor(player, own, k, last)) {
                    sum = sum + realAt(reach, row * MOST_HANDS + k);
                }
            }
            return sum;
        }
    }

    /** A round with dice that are drawn, and how many rounds each has won. */
    private static final class Game {
        private final Table table;
        private final int[] thrown = new int[MOST_FACES];
        private int x;
        private boolean there;
        private int firstHand;
        private int secondHand;
        private int mover = NONE;
        private int last = NONE;
        private int made;
        private int winner = NONE;
        private int wonByFirst;
        private int wonBySecond;

        Game(Table table) {
            this.table = table;
        }

        void forget() {
            there = false;
        }

        void begin(int seed) {
            x = seed;
            firstHand = draw(table.cup(0));
            secondHand = draw(table.cup(1));
            there = true;
            mover = 0;
            last = NONE;
            made = 0;
            winner = NONE;
        }

        private int draw(Cup cup) {
            Arrays.fill(thrown, 0);
            for (int i = 0; i < cup.dice; i++) {
                x = (x * 1103515245 + 12345) & 0x7fffffff;
                int pip = leftOver(x / 65536, cup.faces);
                put(thrown, pip, at(thrown, pip) + 1);
            }
            return cup.find(thrown);
        }

        int handOf(int player) {
            return player == 0 ? firstHand : secondHand;
        }

        boolean goesOn() {
            return there && mover != NONE;
        }

        void bid(int b) {
            last = b;
            made++;
            mover = 1 - mover;
        }

        void end() {
            winner = table.isTrue(firstHand, secondHand, last) ? 1 - mover : mover;
            mover = NONE;
            if (winner == 0) {
                wonByFirst++;
            } else {
                wonBySecond++;
            }
        }

        int fact(int what) {
            switch (what) {
                case 0: return mover;
                case 1: return last;
                case 2: return made;
                default: return winner;
            }
        }
    }
}
