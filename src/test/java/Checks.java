import java.util.NoSuchElementException;
import java.util.function.Supplier;

/** What the tests share: answers held against what is due, states to ask, pictures of a state. */
abstract class Checks {
    static final int NONE = -1;
    static final int PLAIN = 0, RATEABLE = 1, EXCESS = 2, ESCAPE = 3;
    static final int INSURED = 8;
    /** What `share` is asked for. */
    static final int LONE = 0, LEVEL = 1, CAP = 2, SHARE = 3, RING = 4, YIELDS = 5, TRULY = 6, LEFT = 7, BURDEN = 8;
    /** What `settled` is asked for. */
    static final int TOTAL = 2, IN = 3, OUT = 4, RINGS = 5, LEVELS = 6, ALL_YIELDS = 7, ALL_TRULY = 8;
    static final int MILLION = 1_000_000, MOST = 9_000_000;
    static final int LEAST_INT = Integer.MIN_VALUE, GREATEST_INT = Integer.MAX_VALUE;

    /** What there is none of in the state that `some` tells. */
    static final int[] NO_LOSS_OF_TWO = {2, 9, 10, -1, -2, LEAST_INT, GREATEST_INT};
    static final int[] NO_POLICY_OF_THREE = {3, 7, 8, -1, -2, LEAST_INT, GREATEST_INT};
    /** Likewise, where NONE asks for something else. */
    static final int[] NO_POLICY_NOR_NONE = {3, 7, 8, -2, LEAST_INT, GREATEST_INT};
    static final int[] NO_ITEM = {8, -1, LEAST_INT, GREATEST_INT};

    /** Stands for NoSuchElementException; no call of the face can answer it. */
    static final long THROWN = Long.MIN_VALUE + 7;

    private static int wrong;
    private static int sentences;
    private static String words = "";

    /** A call made on a state; a boolean counts 1 or 0. */
    interface Call {
        long on(CoverRings x);
    }

    /** One sentence of the document, and the test of its own that it has. */
    static void sentence(String told, Runnable test) {
        words = told;
        sentences++;
        test.run();
    }

    static void end() {
        System.out.println(wrong == 0 ? "all answers are as due (" + sentences + " sentences)" : wrong + " answers are not as due");
        if (wrong != 0) {
            System.exit(1);
        }
    }

    static void fault(String text) {
        wrong++;
        System.out.println(words + ": " + text);
    }

    static void due(String call, long got, long want) {
        if (got != want) {
            fault(call + " answered " + told(got) + ", due is " + told(want));
        }
    }

    static void due(String call, boolean got, boolean want) {
        due(call, bit(got), bit(want));
    }

    static void dueThrow(String call, CoverRings x, Call made) {
        due(call, answer(x, made), THROWN);
    }

    private static String told(long answer) {
        return answer == THROWN ? "throws.NoSuchElementException" : Long.toString(answer);
    }

    static long bit(boolean answer) {
        return answer ? 1 : 0;
    }

    /** What reaches the caller, if it is not what the document names, is a fault of its own. */
    static long answer(CoverRings x, Call made) {
        try {
            return made.on(x);
        } catch (NoSuchElementException e) {
            return THROWN;
        } catch (RuntimeException e) {
            fault("there came " + e);
            return THROWN + 1;
        }
    }

    /**
     * The call is answered so, also behind other questions (what these left behind in the object must not be told);
     * and nothing of the state is otherwise behind it, nor of what comes then.
     */
    static void unchanging(Supplier<CoverRings> state, String call, long want, Call made) {
        CoverRings touched = state.get();
        due(call, answer(touched, made), want);
        same(call, touched, state.get());
        CoverRings asked = state.get();
        picture(asked);
        due(call + ", behind other questions", answer(asked, made), want);
        CoverRings filled = state.get();
        answer(filled, made);
        CoverRings twin = state.get();
        fill(filled);
        fill(twin);
        same(call + ", then filled", filled, twin);
    }

    private static void same(String call, CoverRings got, CoverRings want) {
        String is = picture(got);
        String was = picture(want);
        if (!is.equals(was)) {
            fault(call + " changed something:\n  " + was + "\n  " + is);
        }
    }

    /** As many policies and losses as there can be: these show what was left behind where they come. */
    private static void fill(CoverRings x) {
        for (int p = x.count(0); p < 8; p++) {
            x.policy(70 + p, 7_000 + p, p, 0, 255);
        }
        for (int l = x.count(1); l < 10; l++) {
            x.loss(l % 8, 40 + l);
        }
    }

    /** All that can be told of a state, with fewer than 350 calls. */
    static String picture(CoverRings x) {
        StringBuilder text = new StringBuilder("counts");
        for (int what = 0; what <= 5; what++) {
            text.append(' ').append(x.count(what));
        }
        for (int p = 0; p < x.count(0); p++) {
            text.append("| policy");
            for (int what = 0; what <= 27; what = what == 10 ? 20 : what + 1) {
                text.append(' ').append(x.of(p, what));
            }
        }
        for (int l = 0; l < x.count(1); l++) {
            text.append("| loss");
            for (int what = 0; what <= 8; what++) {
                text.append(' ').append(x.settled(l, what));
            }
        }
        text.append("| over");
        for (int item = 0; item < 8; item++) {
            text.append(' ').append(x.returned(NONE, item));
        }
        text.append("| drawers");
        for (int at = 0; at < 32; at++) {
            text.append(' ').append(x.filed(at / 8, at % 8, false)).append(':').append(x.filed(at / 8, at % 8, true));
        }
        return text.toString();
    }

    // ---- states

    /** Policies of these limits on item 0, with much in all, nothing deducted. */
    static CoverRings limits(int... limits) {
        CoverRings x = new CoverRings();
        for (int limit : limits) {
            x.policy(limit, MOST, 0, 0, 1);
        }
        return x;
    }

    static CoverRings lossOn(int amount, int... limits) {
        CoverRings x = limits(limits);
        x.loss(0, amount);
        return x;
    }

    static CoverRings eight(int limit) {
        return limits(limit, limit, limit, limit, limit, limit, limit, limit);
    }

    /** Three policies, 1 and 2 a ring, two losses and one that was none, RULE 1, something of all else that can be told. */
    static CoverRings some() {
        CoverRings x = new CoverRings();
        x.policy(400, 900, 5, 0, 0b11);
        x.policy(600, 2_000, 0, 700, 0b01);
        x.policy(300, 300, 0, 0, 0b111);
        x.clause(1, EXCESS, 0b100);
        x.clause(2, ESCAPE, 0b1011);
        x.sub(0, 1, 250);
        x.value(false, 0, 99);
        x.value(true, 0, 800);
        x.loss(1, 260);
        x.revoke();
        x.loss(0, 650);
        x.loss(1, 260);
        x.loss(0, 650);
        x.revoke();
        x.rule();
        x.file(EXCESS, 3, 1);
        x.file(PLAIN, 0, 0);
        return x;
    }

    /** All 8 policies and all 10 losses. */
    static CoverRings full() {
        CoverRings x = new CoverRings();
        for (int p = 0; p < 8; p++) {
            x.policy(100 + 10 * p, 500 + 100 * p, p, 0, 255);
            x.clause(p, p % 4, 0b10101 << p % 3);
            x.value(false, p, 10 * p + 7);
            x.file(p % 4, p, p);
        }
        for (int l = 0; l < 10; l++) {
            x.loss(l % 8, 50 + 100 * l);
        }
        x.value(true, 7, 900);
        return x;
    }

    /** LONES 400, 600, 200, 600; SHARES 200, 300, 100, 0: 2 is RATEABLE, 3 is EXCESS to 0. */
    static CoverRings claims() {
        CoverRings x = lossOn(600, 400, 600, 200, 700);
        x.clause(2, RATEABLE, 0);
        x.clause(3, EXCESS, 1);
        return x;
    }

    /** A claim's number, the first policy of the row first. */
    static long row(int... policies) {
        long row = 0;
        for (int i = policies.length - 1; i >= 0; i--) {
            row = row * 9 + policies[i] + 1;
        }
        return row;
    }

    static void dueShares(String state, CoverRings x, int loss, int... shares) {
        dueOfEach(state + ": SHARE", x, loss, SHARE, shares);
    }

    static void dueOfEach(String state, CoverRings x, int loss, int what, int... want) {
        for (int p = 0; p < want.length; p++) {
            due(state + " of " + p, x.share(loss, p, what), want[p]);
        }
    }

    /** Each payment as {who, whom, how much}; behind the last there is none. */
    static void duePayments(String state, CoverRings x, long row, int[]... payments) {
        due(state + ": how many", x.recovery(0, row, NONE, 0), payments.length);
        for (int k = 0; k < payments.length; k++) {
            for (int what = 0; what < 3; what++) {
                due(state + ": " + k + ", " + what, x.recovery(0, row, k, what), payments[k][what]);
            }
        }
        due(state + ": not so many", x.recovery(0, row, payments.length, 0), NONE);
    }

    static int[] pays(int who, int whom, int much) {
        return new int[] {who, whom, much};
    }
}
