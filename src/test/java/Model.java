import java.util.ArrayList;
import java.util.Arrays;
import java.util.HashMap;
import java.util.List;
import java.util.Map;

/**
 * The document told a second time, in its plainest words and without a thought for speed or
 * room: hands are lists of sorted rows, plans are maps, worth and answers walk every row of moves.
 */
final class Model {
    private int d0;
    private int d1;
    private int faces;
    private boolean wild;
    private final Map<List<Integer>, Integer> weights = new HashMap<>();
    private int[][] inRound;
    private final List<Integer> bidsMade = new ArrayList<>();
    private int winner = -1;
    private final int[] won = new int[2];

    Model() {
        cups(1, 1, 2, false);
    }

    int cups(int newD0, int newD1, int newFaces, boolean newWild) {
        boolean fine = newD0 >= 1 && newD0 <= 3 && newD1 >= 1 && newD1 <= 3
            && newFaces >= 2 && newFaces <= 4;
        if (!fine || (newD0 + newD1) * newFaces > 8) {
            return -2;
        }
        d0 = newD0;
        d1 = newD1;
        faces = newFaces;
        wild = newWild;
        weights.clear();
        inRound = null;
        return bids();
    }

    int hands(int player) {
        return player < 0 || player > 1 ? -2 : handsOf(player).size();
    }

    int hand(int player, int h, int face) {
        if (!isHand(player, h) || face < 0 || face >= faces) {
            return -100;
        }
        return howMany(handsOf(player).get(h), face);
    }

    int throwsOf(int player, int h) {
        return isHand(player, h) ? ways(handsOf(player).get(h)) : -2;
    }

    int holds(int g, int h, int bid) {
        if (!isHand(0, g) || !isHand(1, h) || !isBid(bid)) {
            return -2;
        }
        return holdsWith(handsOf(0).get(g), handsOf(1).get(h), bid) ? 1 : 0;
    }

    int chance(int player, int h, int bid, int what) {
        if (!isHand(player, h) || !isBid(bid) || what < 0 || what > 1) {
            return -2;
        }
        int[] chance = chanceOf(player, h, bid);
        for (int k = chance[1]; k > 1; k--) {
            if (chance[0] % k == 0 && chance[1] % k == 0) {
                return chance[what] / k;
            }
        }
        return chance[what];
    }

    int surest(int player, int h, int a, int b) {
        if (!isHand(player, h) || a < 1 || a > 100 || b < 1 || b > 100) {
            return -2;
        }
        int greatest = -1;
        for (int bid = 0; bid < bids(); bid++) {
            int[] chance = chanceOf(player, h, bid);
            if (chance[0] * b >= a * chance[1]) {
                greatest = bid;
            }
        }
        return greatest;
    }

    int weigh(int plan, int player, int h, int last, int move, int w) {
        if (plan < 0 || plan > 3 || !isHand(player, h) || last < -1 || last >= bids()) {
            return -2;
        }
        if (!movesBehind(last).contains(move) || w < 0 || w > 20) {
            return -2;
        }
        int was = weight(plan, player, h, last, move);
        weights.put(key(plan, player, h, last, move), w);
        return was;
    }

    long worth(int p, int q) {
        if (p < 0 || p > 3 || q < 0 || q > 3) {
            return -1;
        }
        double sum = 0.0;
        for (int g = 0; g < handsOf(0).size(); g++) {
            for (int h = 0; h < handsOf(1).size(); h++) {
                double ways = throwsOf(0, g) * throwsOf(1, h);
                sum = sum + ways * expected(p, q, g, h, -1, 0);
            }
        }
        return Double.doubleToLongBits(sum / rowsOf(d0 + d1));
    }

    long answer(int player, int plan) {
        if (player < 0 || player > 1 || plan < 0 || plan > 3) {
            return -1;
        }
        double sum = 0.0;
        for (int g = 0; g < handsOf(player).size(); g++) {
            sum = sum + throwsOf(player, g) * value(player, plan, g, -1, 0, startOf(1 - player));
        }
        return Double.doubleToLongBits(sum / rowsOf(d0 + d1));
    }

    int opening(int plan, int h) {
        if (plan < 0 || plan > 3 || !isHand(0, h)) {
            return -100;
        }
        return bestMove(0, plan, h, -1, startOf(1));
    }

    int reply(int plan, int h, int bid) {
        if (plan < 0 || plan > 3 || !isHand(1, h) || !isBid(bid)) {
            return -100;
        }
        double[] reached = reachedBy(0, plan, -1, bid, startOf(0));
        return allNone(reached) ? -1 : bestMove(1, plan, h, bid, reached);
    }

    int round(int seed) {
        if (seed < 0) {
            return -2;
        }
        long x = seed;
        inRound = new int[][] {new int[d0], new int[d1]};
        for (int[] row : inRound) {
            for (int i = 0; i < row.length; i++) {
                x = (x * 1103515245L + 12345L) % (1L << 31);
                row[i] = (int) (x / 65536 % faces);
            }
            Arrays.sort(row);
        }
        bidsMade.clear();
        winner = -1;
        return held(0);
    }

    int held(int player) {
        if (player < 0 || player > 1) {
            return -2;
        }
        if (inRound == null) {
            return -3;
        }
        for (int h = 0; h < handsOf(player).size(); h++) {
            if (Arrays.equals(handsOf(player).get(h), inRound[player])) {
                return h;
            }
        }
        throw new IllegalStateException("a hand that is none");
    }

    int move(int m) {
        if (m != -1 && !isBid(m)) {
            return -2;
        }
        if (inRound == null || winner >= 0 || !movesBehind(lastBid()).contains(m)) {
            return -3;
        }
        if (m >= 0) {
            bidsMade.add(m);
            return 0;
        }
        int caller = bidsMade.size() % 2;
        winner = holdsWith(inRound[0], inRound[1], lastBid()) ? 1 - caller : caller;
        won[winner]++;
        return winner + 1;
    }

    int about(int what) {
        if (what < 0 || what > 3) {
            return -2;
        }
        if (inRound == null) {
            return -3;
        }
        int mover = winner >= 0 ? -1 : bidsMade.size() % 2;
        return new int[] {mover, lastBid(), bidsMade.size(), winner}[what];
    }

    int count(int what) {
        if (what < 0 || what > 6) {
            return -2;
        }
        return new int[] {d0, d1, faces, wild ? 1 : 0, bids(), won[0], won[1]}[what];
    }

    long digest() {
        List<Integer> all = new ArrayList<>();
        for (int what = 0; what <= 6; what++) {
            all.add(count(what));
        }
        for (int plan = 0; plan < 4; plan++) {
            for (int player = 0; player < 2; player++) {
                for (int h = 0; h < hands(player); h++) {
                    for (int last = -1; last < bids(); last++) {
                        for (int move : movesBehind(last)) {
                            all.add(weight(plan, player, h, last, move));
                        }
                    }
                }
            }
        }
        if (inRound != null) {
            for (int what = 0; what <= 3; what++) {
                all.add(about(what));
            }
            all.add(held(0));
            all.add(held(1));
        }
        long h = 191;
        for (int v : all) {
            h = 31 * h + v;
        }
        return h;
    }

    private int bids() {
        return (d0 + d1) * faces;
    }

    private boolean isBid(int bid) {
        return bid >= 0 && bid < bids();
    }

    private boolean isHand(int player, int h) {
        return player >= 0 && player <= 1 && h >= 0 && h < handsOf(player).size();
    }

    private int lastBid() {
        return bidsMade.isEmpty() ? -1 : bidsMade.get(bidsMade.size() - 1);
    }

    private int rowsOf(int dice) {
        int rows = 1;
        for (int i = 0; i < dice; i++) {
            rows *= faces;
        }
        return rows;
    }

    private int[] rowAt(int dice, int number) {
        int[] row = new int[dice];
        int rest = number;
        for (int i = dice - 1; i >= 0; i--) {
            row[i] = rest % faces;
            rest /= faces;
        }
        return row;
    }

    private List<int[]> handsOf(int player) {
        int dice = player == 0 ? d0 : d1;
        List<int[]> hands = new ArrayList<>();
        for (int n = 0; n < rowsOf(dice); n++) {
            int[] row = rowAt(dice, n);
            int[] sorted = row.clone();
            Arrays.sort(sorted);
            if (Arrays.equals(row, sorted)) {
                hands.add(row);
            }
        }
        return hands;
    }

    private int ways(int[] hand) {
        int ways = 0;
        for (int n = 0; n < rowsOf(hand.length); n++) {
            int[] row = rowAt(hand.length, n);
            Arrays.sort(row);
            if (Arrays.equals(row, hand)) {
                ways++;
            }
        }
        return ways;
    }

    private static int howMany(int[] row, int face) {
        int count = 0;
        for (int pip : row) {
            if (pip == face) {
                count++;
            }
        }
        return count;
    }

    private boolean holdsWith(int[] g, int[] h, int bid) {
        int face = bid % faces;
        int there = howMany(g, face) + howMany(h, face);
        if (wild && face != 0) {
            there += howMany(g, 0) + howMany(h, 0);
        }
        return there >= 1 + bid / faces;
    }

    private boolean holdsFor(int player, int own, int other, int bid) {
        int g = player == 0 ? own : other;
        int h = player == 0 ? other : own;
        return holdsWith(handsOf(0).get(g), handsOf(1).get(h), bid);
    }

    private int[] chanceOf(int player, int h, int bid) {
        int dice = player == 0 ? d1 : d0;
        int above = 0;
        for (int n = 0; n < rowsOf(dice); n++) {
            if (holdsWith(handsOf(player).get(h), rowAt(dice, n), bid)) {
                above++;
            }
        }
        return new int[] {above, rowsOf(dice)};
    }

    private List<Integer> movesBehind(int last) {
        List<Integer> moves = new ArrayList<>();
        if (last != -1) {
            moves.add(-1);
        }
        for (int bid = last + 1; bid < bids(); bid++) {
            moves.add(bid);
        }
        return moves;
    }

    private List<Integer> key(int plan, int player, int h, int last, int move) {
        return List.of(plan, player == 0 ? d0 : d1, h, last, move);
    }

    private int weight(int plan, int player, int h, int last, int move) {
        return weights.getOrDefault(key(plan, player, h, last, move), 1);
    }

    private int total(int plan, int player, int h, int last) {
        int total = 0;
        for (int move : movesBehind(last)) {
            total += weight(plan, player, h, last, move);
        }
        return total;
    }

    private double share(int plan, int player, int h, int last, int move) {
        int total = total(plan, player, h, last);
        if (total == 0) {
            return move == movesBehind(last).get(0) ? 1.0 : 0.0;
        }
        return (double) weight(plan, player, h, last, move) / (double) total;
    }

    private double expected(int p, int q, int g, int h, int last, int mover) {
        double e = 0.0;
        for (int move : movesBehind(last)) {
            double share = mover == 0 ? share(p, 0, g, last, move) : share(q, 1, h, last, move);
            if (share == 0.0) {
                continue;
            }
            if (move != -1) {
                e = e + share * expected(p, q, g, h, move, 1 - mover);
            } else {
                boolean holds = holdsFor(0, g, h, last);
                boolean firstWins = mover == 0 ? !holds : holds;
                e = e + share * (firstWins ? 1.0 : 0.0);
            }
        }
        return e;
    }

    private double[] startOf(int other) {
        double[] reached = new double[handsOf(other).size()];
        for (int h = 0; h < reached.length; h++) {
            reached[h] = throwsOf(other, h);
        }
        return reached;
    }

    private double[] reachedBy(int other, int plan, int last, int move, double[] reached) {
        double[] next = new double[reached.length];
        for (int h = 0; h < next.length; h++) {
            next[h] = reached[h] * share(plan, other, h, last, move);
        }
        return next;
    }

    private static boolean allNone(double[] reached) {
        for (double r : reached) {
            if (r != 0.0) {
                return false;
            }
        }
        return true;
    }

    private double valueOf(int player, int plan, int own, int last, int move, double[] reached) {
        if (move != -1) {
            return value(player, plan, own, move, 1 - player, reached);
        }
        double sum = 0.0;
        for (int h = 0; h < reached.length; h++) {
            if (!holdsFor(player, own, h, last)) {
                sum = sum + reached[h];
            }
        }
        return sum;
    }

    private int bestMove(int player, int plan, int own, int last, double[] reached) {
        List<Integer> moves = movesBehind(last);
        int best = moves.get(0);
        double most = valueOf(player, plan, own, last, best, reached);
        for (int move : moves.subList(1, moves.size())) {
            double won = valueOf(player, plan, own, last, move, reached);
            if (won > most) {
                most = won;
                best = move;
            }
        }
        return best;
    }

    private double value(int player, int plan, int own, int last, int mover, double[] reached) {
        if (mover == player) {
            double most = -1.0;
            for (int move : movesBehind(last)) {
                double won = valueOf(player, plan, own, last, move, reached);
                most = won > most ? won : most;
            }
            return most;
        }
        double v = 0.0;
        for (int move : movesBehind(last)) {
            double[] next = reachedBy(mover, plan, last, move, reached);
            if (allNone(next)) {
                continue;
            }
            if (move != -1) {
                v = v + value(player, plan, own, move, player, next);
                continue;
            }
            for (int h = 0; h < next.length; h++) {
                if (holdsFor(player, own, h, last)) {
                    v = v + next[h];
                }
            }
        }
        return v;
    }
}
