import java.util.NoSuchElementException;
import java.util.Random;

/** Runs of calls drawn by a seed: every answer of CoverRings against that of Naive. */
final class RandomRunsTest {
    private static final int CALLS = 31;
    private static int wrong;
    private static final long[] ASKED = new long[CALLS];

    private final Random draw;
    private final CoverRings got = new CoverRings();
    private final Naive want = new Naive();
    private final int scale;
    private final int yielding;
    private final int mostPolicies;
    private String call;

    private RandomRunsTest(long seed) {
        draw = new Random(seed);
        int[] scales = {3, 10, 60, 1000, 50_000, 1_000_000};
        scale = scales[draw.nextInt(scales.length)];
        yielding = draw.nextInt(4);
        mostPolicies = 1 + draw.nextInt(8);
    }

    public static void main(String[] args) {
        int runs = args.length > 0 ? Integer.parseInt(args[0]) : 1500;
        for (int seed = 1; seed <= runs && wrong < 20; seed++) {
            new RandomRunsTest(seed).run(seed);
        }
        for (int i = 0; i < CALLS; i++) {
            if (ASKED[i] == 0) {
                wrong++;
                System.out.println("call " + i + " was never drawn");
            }
        }
        System.out.println(wrong == 0 ? "all answers are as due" : wrong + " answers are not as due");
        if (wrong != 0) {
            System.exit(1);
        }
    }

    private void run(long seed) {
        for (int p = 0; p < mostPolicies; p++) {
            step(seed, 0);
            if (draw.nextInt(4) < yielding) {
                step(seed, 1);
            }
        }
        for (int l = draw.nextInt(10); l >= 0; l--) {
            step(seed, 5);
        }
        for (int i = 0; i < 480; i++) {
            int which = draw.nextInt(CALLS);
            // what changes the state comes less often, so that there is something to ask of
            if (which <= 7 && draw.nextInt(3) > 0 || which == 0 && want.policies.size() >= mostPolicies && draw.nextInt(10) > 0) {
                which = 8 + draw.nextInt(CALLS - 8);
            }
            if (which == 24 && draw.nextInt(20) > 0) {
                which = 23;
            }
            step(seed, which);
        }
    }

    private void step(long seed, int which) {
        ASKED[which]++;
        Random at = new Random(draw.nextLong());
        long twin = at.nextLong();
        long one = answer(which, new Random(twin), true);
        long other = answer(which, new Random(twin), false);
        if (one != other) {
            wrong++;
            System.out.println("seed " + seed + ": " + call + " answered " + one + ", due is " + other);
        }
    }

    /** The same draws for both, so the same arguments. */
    private long answer(int which, Random r, boolean mine) {
        try {
            return which < 10 ? told(which, r, mine) : which < 18 ? ofLoss(which, r, mine) : beyond(which, r, mine);
        } catch (NoSuchElementException e) {
            return Long.MIN_VALUE + 1;
        }
    }

    private static int any(Random r, int least, int most) {
        int n = least + r.nextInt(most - least + 1);
        switch (r.nextInt(40)) {
            case 0: return least - 1;
            case 1: return most + 1;
            case 2: return r.nextInt();
            case 3: return Integer.MIN_VALUE;
            case 4: return Integer.MAX_VALUE;
            case 5: return -1;
            default: return n;
        }
    }

    private int sum(Random r, int least, int most) {
        if (r.nextInt(40) == 0) {
            return r.nextBoolean() ? least : most;
        }
        return any(r, least, Math.min(most, scale));
    }

    private int policy(Random r) { return any(r, 0, Math.max(0, want.policies.size() - 1)); }
    private int policyOrNone(Random r) { return r.nextInt(4) == 0 ? -1 : policy(r); }
    private int loss(Random r) { return any(r, 0, Math.max(0, want.losses.size() - 1)); }
    private int item(Random r) { return r.nextInt(3) == 0 ? any(r, 0, 7) : any(r, 0, 1); }
    private int k(Random r, int most) { return r.nextInt(3) == 0 ? -1 : any(r, 0, most); }
    private int set(Random r) { return any(r, 0, (1 << want.policies.size()) - 1); }

    private long row(Random r) {
        long row = 0;
        if (r.nextInt(30) == 0) {
            return r.nextLong();
        }
        int used = 0;
        int length = r.nextInt(want.policies.size() + 1);
        long place = 1;
        for (int i = 0; i < length; i++) {
            int p = r.nextInt(want.policies.size());
            if ((used >> p & 1) != 0 && r.nextInt(20) > 0) {
                continue;
            }
            used |= 1 << p;
            row += place * (p + 1);
            place *= 9;
            if (r.nextInt(60) == 0) {
                place *= 9;
            }
        }
        return r.nextInt(60) == 0 ? -row : row;
    }

    private long told(int which, Random r, boolean mine) {
        int a, b, c, d, e;
        switch (which) {
            case 0:
                a = sum(r, 1, 1_000_000);
                b = r.nextInt(3) == 0 ? sum(r, 1, 9_000_000) : any(r, 1, Math.min(9_000_000, 6 * scale));
                c = r.nextInt(3) > 0 ? 0 : sum(r, 0, 99_999) / (1 + r.nextInt(5));
                d = r.nextInt(2) == 0 ? 0 : any(r, 0, Math.min(9_000_000, 2 * scale));
                e = r.nextInt(3) == 0 ? any(r, 1, 255) : 255;
                call = "policy(" + a + ", " + b + ", " + c + ", " + d + ", " + e + ")";
                return mine ? got.policy(a, b, c, d, e) : want.policy(a, b, c, d, e);
            case 1:
                a = policy(r);
                b = r.nextInt(3) == 0 ? any(r, 0, 3) : any(r, 2, 3);
                c = any(r, 0, 255) & (r.nextBoolean() ? -1 : r.nextInt(256));
                call = "clause(" + a + ", " + b + ", " + c + ")";
                return (mine ? got.clause(a, b, c) : want.clause(a, b, c)) ? 1 : 0;
            case 2:
                a = policy(r); b = sum(r, 1, 1_000_000);
                call = "limit(" + a + ", " + b + ")";
                return (mine ? got.limit(a, b) : want.limit(a, b)) ? 1 : 0;
            case 3:
                a = policy(r); b = item(r); c = r.nextInt(3) == 0 ? -1 : sum(r, 0, 1_000_000);
                call = "sub(" + a + ", " + b + ", " + c + ")";
                return (mine ? got.sub(a, b, c) : want.sub(a, b, c)) ? 1 : 0;
            case 4:
                boolean worth = r.nextBoolean();
                a = worth ? item(r) : policy(r);
                b = sum(r, 0, worth ? 9_000_000 : 99_999);
                call = "value(" + worth + ", " + a + ", " + b + ")";
                return (mine ? got.value(worth, a, b) : want.value(worth, a, b)) ? 1 : 0;
            case 5:
                a = item(r); b = sum(r, 1, 1_000_000);
                call = "loss(" + a + ", " + b + ")";
                return mine ? got.loss(a, b) : want.loss(a, b);
            case 6:
                call = "revoke()";
                return mine ? got.revoke() : want.revoke();
            case 7:
                call = "rule()";
                return mine ? got.rule() : want.rule();
            case 8:
                a = any(r, 0, 5);
                call = "count(" + a + ")";
                return mine ? got.count(a) : want.count(a);
            default:
                a = policy(r); b = r.nextInt(3) == 0 ? any(r, 20, 27) : any(r, 0, 10);
                call = "of(" + a + ", " + b + ")";
                return mine ? got.of(a, b) : want.of(a, b);
        }
    }

    private long ofLoss(int which, Random r, boolean mine) {
        int a = loss(r), b, c, d;
        switch (which) {
            case 10:
                b = any(r, 0, 8);
                call = "settled(" + a + ", " + b + ")";
                return mine ? got.settled(a, b) : want.settled(a, b);
            case 11:
                b = policy(r); c = any(r, 0, 8);
                call = "share(" + a + ", " + b + ", " + c + ")";
                return mine ? got.share(a, b, c) : want.share(a, b, c);
            case 12:
                b = policy(r);
                call = "part(" + a + ", " + b + ")";
                return mine ? got.part(a, b) : want.part(a, b);
            case 13:
                b = policy(r);
                call = "strain(" + a + ", " + b + ")";
                return mine ? got.strain(a, b) : want.strain(a, b);
            case 14:
                b = any(r, 0, 3);
                call = "step(" + a + ", " + b + ")";
                return mine ? got.step(a, b) : want.step(a, b);
            case 15:
                b = any(r, 0, 3);
                call = "level(" + a + ", " + b + ")";
                return mine ? got.level(a, b) : want.level(a, b);
            case 16:
                b = any(r, 0, 2);
                call = "ring(" + a + ", " + b + ")";
                return mine ? got.ring(a, b) : want.ring(a, b);
            default:
                b = policy(r); c = policy(r); d = k(r, 3);
                call = "way(" + a + ", " + b + ", " + c + ", " + d + ")";
                return mine ? got.way(a, b, c, d) : want.way(a, b, c, d);
        }
    }

    private long beyond(int which, Random r, boolean mine) {
        int a = loss(r), b, c;
        long row;
        boolean flag = r.nextBoolean();
        switch (which) {
            case 18:
                row = row(r); b = policyOrNone(r);
                call = "claimed(" + a + ", " + row + ", " + b + ")";
                return mine ? got.claimed(a, row, b) : want.claimed(a, row, b);
            case 19:
                row = row(r); b = k(r, 4); c = any(r, 0, 2);
                call = "recovery(" + a + ", " + row + ", " + b + ", " + c + ")";
                return mine ? got.recovery(a, row, b, c) : want.recovery(a, row, b, c);
            case 20:
                b = set(r); c = policyOrNone(r);
                call = "broke(" + a + ", " + b + ", " + c + ")";
                return mine ? got.broke(a, b, c) : want.broke(a, b, c);
            case 21:
                b = policy(r);
                call = "without(" + a + ", " + b + ")";
                return mine ? got.without(a, b) : want.without(a, b);
            case 22:
                b = policy(r);
                call = "other(" + a + ", " + b + ")";
                return mine ? got.other(a, b) : want.other(a, b);
            case 23:
                b = set(r);
                call = "set(" + a + ", " + b + ")";
                return mine ? got.set(a, b) : want.set(a, b);
            case 24:
                b = policy(r);
                call = "shapley(" + a + ", " + b + ")";
                return mine ? got.shapley(a, b) : want.shapley(a, b);
            case 25:
                a = policyOrNone(r); b = item(r);
                call = "returned(" + a + ", " + b + ")";
                return mine ? got.returned(a, b) : want.returned(a, b);
            case 26:
                call = "ringless(" + a + ", " + flag + ")";
                return mine ? got.ringless(a, flag) : want.ringless(a, flag);
            case 27:
                call = "fewest(" + a + ", " + flag + ")";
                return mine ? got.fewest(a, flag) : want.fewest(a, flag);
            case 28:
                b = policy(r); c = any(r, 0, 3);
                call = "moved(" + a + ", " + b + ", " + c + ")";
                return mine ? got.moved(a, b, c) : want.moved(a, b, c);
            case 29:
                a = any(r, 0, 3); b = any(r, 0, 7); c = policy(r);
                call = "file(" + a + ", " + b + ", " + c + ")";
                return mine ? got.file(a, b, c) : want.file(a, b, c);
            default:
                a = any(r, 0, 3); b = any(r, 0, 7);
                call = "filed(" + a + ", " + b + ", " + flag + ")";
                return mine ? got.filed(a, b, flag) : want.filed(a, b, flag);
        }
    }
}
