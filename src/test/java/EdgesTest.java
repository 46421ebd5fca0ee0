/**
 * Every call with numbers at and beside each edge, two of them at a time, against the model: in a
 * new object, in a round, in one that is over, and with all cups. A call that is refused or asks
 * must change nothing, and none may throw.
 */
public final class EdgesTest {
    private static final int[] NUMBERS = {Integer.MIN_VALUE, -101, -100, -3, -2, -1, 0, 1, 2, 3,
        4, 5, 6, 7, 8, 9, 19, 20, 21, 99, 100, 101, 1 << 30, Integer.MAX_VALUE};
    /** No object is used for more calls than the document promises. */
    private static final int CALLS = 512;
    private static final String[] NAMES = {"cups", "hands", "hand", "throwsOf", "holds", "chance",
        "surest", "weigh", "worth", "answer", "opening", "reply", "round", "held", "move", "about",
        "count"};
    /** For each call numbers that are as told. */
    private static final int[][] FINE = {{1, 1, 2}, {0}, {1, 1, 1}, {0, 1}, {1, 0, 2},
        {1, 0, 1, 1}, {0, 0, 1, 2}, {1, 0, 1, 0, 2, 5}, {0, 1}, {1, 2}, {1, 1}, {2, 0, 1}, {7},
        {1}, {2}, {3}, {4}};

    private final Checks checks = new Checks("EdgesTest");
    private DiceCups x;
    private Model model;
    private int used;
    private int[] cups;
    private int state;

    public static void main(String[] args) {
        EdgesTest test = new EdgesTest();
        for (int[] one : Help.ALL_CUPS) {
            for (int state = 0; state < 4; state++) {
                test.cups = one;
                test.state = state;
                test.anew();
                for (int call = 0; call < NAMES.length; call++) {
                    test.allPairs(call);
                }
                test.compareDigests();
            }
        }
        test.checks.end();
    }

    /** A new object and model, brought into the state: none, no round, in a round, over. */
    private void anew() {
        x = new DiceCups();
        model = new Model();
        used = 0;
        if (state > 0) {
            made(0, cups[0], cups[1], cups[2]);
        }
        if (state > 1) {
            made(12, 1234567);
            made(14, 2);
        }
        if (state > 2) {
            made(14, -1);
        }
    }

    private void allPairs(int call) {
        int[] fine = FINE[call];
        for (int i = 0; i < fine.length; i++) {
            for (int k = i; k < fine.length; k++) {
                for (int a : NUMBERS) {
                    for (int b : i == k ? new int[] {a} : NUMBERS) {
                        int[] numbers = fine.clone();
                        numbers[i] = a;
                        numbers[k] = b;
                        one(call, numbers);
                    }
                }
            }
        }
    }

    private void one(int call, int[] numbers) {
        if (used >= CALLS - 1) {
            compareDigests();
            anew();
        }
        long got = made(call, numbers);
        boolean changes = call == 0 || call == 12 || call == 14;
        // Behind a call that changed cups or the round, the next one needs the state again.
        if (changes && got >= 0) {
            compareDigests();
            anew();
        }
    }

    private void compareDigests() {
        checks.due("digest() in state " + state, x.digest(), model.digest());
    }

    private long made(int call, int... n) {
        used++;
        long want = ofModel(call, n);
        StringBuilder text = new StringBuilder(NAMES[call]);
        for (int i = 0; i < n.length; i++) {
            text.append(i == 0 ? "(" : ", ").append(n[i]);
        }
        text.append(") in state ").append(state);
        long got;
        try {
            got = ofClass(call, n);
        } catch (RuntimeException e) {
            checks.sure(text + " does not throw " + e, false);
            return want;
        }
        checks.due(text.toString(), got, want);
        return got;
    }

    private long ofClass(int call, int[] n) {
        switch (call) {
            case 0: return x.cups(n[0], n[1], n[2], n[0] == 1);
            case 1: return x.hands(n[0]);
            case 2: return x.hand(n[0], n[1], n[2]);
            case 3: return x.throwsOf(n[0], n[1]);
            case 4: return x.holds(n[0], n[1], n[2]);
            case 5: return x.chance(n[0], n[1], n[2], n[3]);
            case 6: return x.surest(n[0], n[1], n[2], n[3]);
            case 7: return x.weigh(n[0], n[1], n[2], n[3], n[4], n[5]);
            case 8: return x.worth(n[0], n[1]);
            case 9: return x.answer(n[0], n[1]);
            case 10: return x.opening(n[0], n[1]);
            case 11: return x.reply(n[0], n[1], n[2]);
            case 12: return x.round(n[0]);
            case 13: return x.held(n[0]);
            case 14: return x.move(n[0]);
            case 15: return x.about(n[0]);
            default: return x.count(n[0]);
        }
    }

    private long ofModel(int call, int[] n) {
        switch (call) {
            case 0: return model.cups(n[0], n[1], n[2], n[0] == 1);
            case 1: return model.hands(n[0]);
            case 2: return model.hand(n[0], n[1], n[2]);
            case 3: return model.throwsOf(n[0], n[1]);
            case 4: return model.holds(n[0], n[1], n[2]);
            case 5: return model.chance(n[0], n[1], n[2], n[3]);
            case 6: return model.surest(n[0], n[1], n[2], n[3]);
            case 7: return model.weigh(n[0], n[1], n[2], n[3], n[4], n[5]);
            case 8: return model.worth(n[0], n[1]);
            case 9: return model.answer(n[0], n[1]);
            case 10: return model.opening(n[0], n[1]);
            case 11: return model.reply(n[0], n[1], n[2]);
            case 12: return model.round(n[0]);
            case 13: return model.held(n[0]);
            case 14: return model.move(n[0]);
            case 15: return model.about(n[0]);
            default: return model.count(n[0]);
        }
    }
}
