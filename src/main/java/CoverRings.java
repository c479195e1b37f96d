import java.util.Arrays;
import java.util.NoSuchElementException;

/** Several policies on one loss: clauses, rings, levels, shares, claims and recoveries. */
public final class CoverRings {
    public static final int NONE = -1;

    private static final int POLICIES = 8;
    private static final int LOSSES = 10;
    private static final int ITEMS = 8;
    private static final int DRAWERS = 4;
    private static final int PLACES = 8;
    private static final int EVERY_BIT = 255;

    private static final int MOST_LIMIT = 1000000;
    private static final int MOST_AGGREGATE = 9000000;
    private static final int MOST_DEDUCTIBLE = 99999;
    private static final int MOST_VALUE = 9000000;
    private static final int MOST_AMOUNT = 1000000;
    private static final int MOST_PREMIUM = 99999;
    private static final int MOST_WORTH = 9000000;

    private static final int PLAIN = 0;
    private static final int EXCESS = 2;
    private static final int ESCAPE = 3;

    private static final int INSURED = 8;
    private static final int ROW_BASE = 9;
    private static final int SUBLIMITS_FROM = 20;
    private static final int OF_ANOTHER_KIND = -2;
    private static final int NOTHING_THERE = -2;

    private static final long[] FACTORIALS = {1, 1, 2, 6, 24, 120, 720, 5040};

    private final Book book;
    private final Settlement settlement;
    private final Way shortest;
    private final Claim claim;
    private final Drawers drawers;
    private final int[] earlierShares;

    public CoverRings() {
        settlement = new Settlement();
        book = settlement.book;
        shortest = new Way();
        claim = new Claim();
        drawers = new Drawers();
        earlierShares = new int[POLICIES];
    }

    // ---- what there is

    public int policy(int limit, int aggregate, int deductible, int value, int items) {
        if (!within(limit, 1, MOST_LIMIT) || !within(aggregate, 1, MOST_AGGREGATE)
                || !within(deductible, 0, MOST_DEDUCTIBLE) || !within(value, 0, MOST_VALUE)
                || !within(items, 1, EVERY_BIT) || book.policies >= POLICIES) {
            return NONE;
        }
        int p = book.policies;
        book.limits[p] = limit;
        book.aggregates[p] = aggregate;
        book.deductibles[p] = deductible;
        book.values[p] = value;
        book.items[p] = items;
        book.policies = p + 1;
        return p;
    }

    public boolean clause(int policy, int kind, int to) {
        if (!isPolicy(policy) || !isKind(kind) || !within(to, 0, EVERY_BIT)) {
            return false;
        }
        if (book.kinds[policy] == kind && book.tos[policy] == to) {
            return false;
        }
        book.kinds[policy] = kind;
        book.tos[policy] = to;
        return true;
    }

    public boolean limit(int policy, int limit) {
        return isPolicy(policy) && within(limit, 1, MOST_LIMIT)
                && changed(book.limits, policy, limit);
    }

    public boolean sub(int policy, int item, int v) {
        return isPolicy(policy) && isItem(item) && within(v, NONE, MOST_LIMIT)
                && changed(book.sublimits, policy * ITEMS + item, v);
    }

    public boolean value(boolean worth, int k, int v) {
        if (worth) {
            return isItem(k) && within(v, 0, MOST_WORTH) && changed(book.worths, k, v);
        }
        return isPolicy(k) && within(v, 0, MOST_PREMIUM) && changed(book.premiums, k, v);
    }

    public int loss(int item, int amount) {
        if (!isItem(item) || !within(amount, 1, MOST_AMOUNT) || book.losses >= LOSSES) {
            return NONE;
        }
        int l = book.losses;
        book.lossItems[l] = item;
        book.amounts[l] = amount;
        book.losses = l + 1;
        return l;
    }

    public int revoke() {
        if (book.losses == 0) {
            return NONE;
        }
        book.losses--;
        return book.losses;
    }

    public int rule() {
        book.rule = 1 - book.rule;
        return book.rule;
    }

    public int count(int what) {
        switch (what) {
            case 0:
                return book.policies;
            case 1:
                return book.losses;
            case 2:
                return book.rule;
            case 3:
                settleAll();
                return settlement.allTotals;
            case 4:
                return book.amountsTogether();
            case 5:
                settleAll();
                return settlement.usedUp();
            default:
                return NONE;
        }
    }

    public int of(int policy, int what) throws NoSuchElementException {
        if (!isPolicy(policy)) {
            throw new NoSuchElementException();
        }
        if (within(what, SUBLIMITS_FROM, SUBLIMITS_FROM + ITEMS - 1)) {
            return book.sublimits[policy * ITEMS + what - SUBLIMITS_FROM];
        }
        switch (what) {
            case 0:
                return book.limits[policy];
            case 1:
                return book.aggregates[policy];
            case 2:
                return book.deductibles[policy];
            case 3:
                return book.values[policy];
            case 4:
                return book.items[policy];
            case 5:
                return book.kinds[policy];
            case 6:
                return book.tos[policy];
            case 7:
                settleAll();
                return settlement.left[policy];
            case 8:
                settleAll();
                return book.aggregates[policy] - settlement.left[policy];
            case 9:
                return book.premiums[policy];
            case 10:
                settleAll();
                return settlement.usedUpBy[policy];
            default:
                throw new NoSuchElementException();
        }
    }

    // ---- a loss

    public int settled(int loss, int what) {
        if (!isLoss(loss)) {
            return NONE;
        }
        settle(loss);
        Web web = settlement.web;
        switch (what) {
            case 0:
                return book.lossItems[loss];
            case 1:
                return book.amounts[loss];
            case 2:
                return settlement.total;
            case 3:
                return web.in;
            case 4:
                return web.out;
            case 5:
                return web.countRings();
            case 6:
                return web.levels;
            case 7:
                return web.countYields();
            case 8:
                return web.countTrueYields();
            default:
                return NONE;
        }
    }

    public int share(int loss, int policy, int what) throws NoSuchElementException {
        if (!isLoss(loss) || !isPolicy(policy)) {
            throw new NoSuchElementException();
        }
        settle(loss);
        Web web = settlement.web;
        switch (what) {
            case 0:
                return settlement.lones[policy];
            case 1:
                return web.levelOf[policy];
            case 2:
                return settlement.caps[policy];
            case 3:
                return settlement.shares[policy];
            case 4:
                return web.rings[policy];
            case 5:
                return web.yields[policy];
            case 6:
                return web.trueYields(policy);
            case 7:
                return settlement.ahead[policy];
            case 8:
                return settlement.burdenOn(policy);
            default:
                throw new NoSuchElementException();
        }
    }

    public int part(int loss, int policy) {
        if (!isLoss(loss) || !isPolicy(policy)) {
            return NONE;
        }
        settle(loss);
        if (settlement.total == 0) {
            return NONE;
        }
        return bitsOfFloat((float) settlement.shares[policy] / (float) settlement.total);
    }

    public long strain(int loss, int policy) {
        if (!isLoss(loss) || !isPolicy(policy) || book.limits[policy] == 0) {
            return NONE;
        }
        settle(loss);
        return bitsOfDouble((double) settlement.shares[policy] / (double) book.limits[policy]);
    }

    public int step(int loss, int level) {
        if (!isLoss(loss)) {
            return NONE;
        }
        settle(loss);
        return isLevel(level) ? settlement.heightOf(level) : NONE;
    }

    public int level(int loss, int level) {
        if (!isLoss(loss)) {
            return NONE;
        }
        settle(loss);
        return isLevel(level) ? settlement.web.levelSets[level] : NONE;
    }

    public int ring(int loss, int k) {
        if (!isLoss(loss)) {
            return NONE;
        }
        settle(loss);
        return settlement.web.ringAt(k);
    }

    public int way(int loss, int one, int other, int k) {
        if (!isLoss(loss) || !isPolicy(one) || !isPolicy(other)) {
            return NONE;
        }
        settle(loss);
        int length = shortest.find(settlement.web.yields, one, other);
        if (length == 0) {
            return NONE;
        }
        if (k == NONE) {
            return length;
        }
        return within(k, 0, length - 1) ? shortest.row[k] : NONE;
    }

    // ---- claims, recovery, insurers that can't pay

    public int claimed(int loss, long row, int policy) {
        if (!isLoss(loss) || !isPolicyOrNone(policy) || !claim.read(row, book.policies)) {
            return NONE;
        }
        settle(loss);
        claim.pay(settlement);
        return policy == NONE ? claim.paid : claim.firsts[policy];
    }

    public int recovery(int loss, long row, int k, int what) {
        if (!isLoss(loss) || !within(what, 0, 2) || !claim.read(row, book.policies)) {
            return NONE;
        }
        settle(loss);
        claim.pay(settlement);
        claim.recover(settlement.shares, settlement.total);
        if (k == NONE) {
            return claim.payments;
        }
        if (!within(k, 0, claim.payments - 1)) {
            return NONE;
        }
        switch (what) {
            case 0:
                return claim.payers[k];
            case 1:
                return claim.payees[k];
            default:
                return claim.sums[k];
        }
    }

    public int broke(int loss, int broke, int policy) {
        if (!isLoss(loss) || !isPolicyOrNone(policy) || !isSet(broke)) {
            return NONE;
        }
        settle(loss);
        int lacking = settlement.makeGood(broke);
        if (policy == NONE) {
            return lacking;
        }
        return has(broke, policy) ? 0 : settlement.shares[policy] + settlement.divider.parts[policy];
    }

    // ---- what would be

    public int without(int loss, int policy) {
        if (!isLoss(loss) || !isPolicy(policy)) {
            return NONE;
        }
        return totalOfSet(loss, book.everyone() & ~(1 << policy));
    }

    public int other(int loss, int policy) {
        if (!isLoss(loss) || !isPolicy(policy)) {
            return NONE;
        }
        settlement.asBooked();
        settlement.rule = 1 - book.rule;
        settlement.through(loss);
        return settlement.shares[policy];
    }

    public int set(int loss, int set) {
        return isLoss(loss) && isSet(set) ? totalOfSet(loss, set) : NONE;
    }

    public long shapley(int loss, int policy) {
        if (!isLoss(loss) || !isPolicy(policy)) {
            return NONE;
        }
        int everyone = book.everyone();
        long sum = 0;
        for (int set = 0; set <= everyone; set++) {
            int others = Integer.bitCount(set & ~(1 << policy));
            long orders = FACTORIALS[others] * FACTORIALS[book.policies - 1 - others];
            long total = totalOfSet(loss, set);
            sum += has(set, policy) ? orders * total : -orders * total;
        }
        return sum;
    }

    public int returned(int policy, int item) {
        if (!isPolicyOrNone(policy) || !isItem(item) || book.worths[item] == 0) {
            return NONE;
        }
        long limits = book.limitsOn(item);
        long over = Math.max(limits - book.worths[item], 0);
        if (policy == NONE) {
            return (int) over;
        }
        if (!has(book.items[policy], item) || limits == 0) {
            return NONE;
        }
        return (int) (book.premiums[policy] * over / limits);
    }

    public int ringless(int loss, boolean bits) {
        if (!isLoss(loss)) {
            return NONE;
        }
        settle(loss);
        int best = settlement.web.fewestPlain();
        return bits ? best : Integer.bitCount(best);
    }

    public int fewest(int loss, boolean bits) {
        if (!isLoss(loss)) {
            return NONE;
        }
        settle(loss);
        int best = settlement.fewestClaimed();
        return bits ? best : Integer.bitCount(best);
    }

    public int moved(int loss, int policy, int kind) {
        if (!isLoss(loss) || !isPolicy(policy) || !isKind(kind)) {
            return NONE;
        }
        settle(loss);
        System.arraycopy(settlement.shares, 0, earlierShares, 0, POLICIES);
        settlement.asBooked();
        settlement.web.kinds[policy] = kind;
        settlement.through(loss);
        int differing = 0;
        for (int p = 0; p < POLICIES; p++) {
            if (settlement.shares[p] != earlierShares[p]) {
                differing++;
            }
        }
        return differing;
    }

    // ---- drawers

    public int file(int drawer, int place, int policy) {
        if (!isPlace(drawer, place) || !isPolicy(policy)) {
            return NONE;
        }
        if (book.kinds[policy] != drawer) {
            return OF_ANOTHER_KIND;
        }
        drawers.put(drawer * PLACES + place, policy, book.tos[policy]);
        return 0;
    }

    public int filed(int drawer, int place, boolean to) {
        if (!isPlace(drawer, place)) {
            return NONE;
        }
        int at = drawer * PLACES + place;
        if (drawers.policies[at] == NONE) {
            return NOTHING_THERE;
        }
        return to ? drawers.tos[at] : drawers.policies[at];
    }

    // ---- what several calls of the face need

    private static boolean within(int n, int least, int most) {
        return n >= least && n <= most;
    }

    private static boolean has(int set, int k) {
        return (set >> k & 1) != 0;
    }

    private static boolean isItem(int item) {
        return within(item, 0, ITEMS - 1);
    }

    private static boolean isKind(int kind) {
        return within(kind, PLAIN, ESCAPE);
    }

    private static boolean isPlace(int drawer, int place) {
        return within(drawer, 0, DRAWERS - 1) && within(place, 0, PLACES - 1);
    }

    private boolean isPolicy(int policy) {
        return within(policy, 0, book.policies - 1);
    }

    private boolean isPolicyOrNone(int policy) {
        return policy == NONE || isPolicy(policy);
    }

    private boolean isSet(int set) {
        return within(set, 0, book.everyone());
    }

    private boolean isLoss(int loss) {
        return within(loss, 0, book.losses - 1);
    }

    /** Only behind a settling: the levels are those of the loss that was settled last. */
    private boolean isLevel(int level) {
        return within(level, 0, settlement.web.levels - 1);
    }

    /** Whether the place held another number: only then is it a change. */
    private static boolean changed(int[] numbers, int at, int n) {
        if (at < 0 || at >= numbers.length || numbers[at] == n) {
            return false;
        }
        numbers[at] = n;
        return true;
    }

    private void settle(int loss) {
        settlement.asBooked();
        settlement.through(loss);
    }

    private void settleAll() {
        settlement.asBooked();
        settlement.through(book.losses - 1);
    }

    private int totalOfSet(int loss, int set) {
        settlement.asBooked();
        settlement.present = set;
        settlement.through(loss);
        return settlement.total;
    }

    /** Of a number from 0 to 1 that is no subnormal one: doubling loses nothing of it. */
    private static int bitsOfFloat(float number) {
        if (!(number > 0)) {
            return 0;
        }
        float mantissa = number;
        int exponent = 127;
        for (int i = 0; i < 126 && mantissa < 1; i++) {
            mantissa *= 2;
            exponent--;
        }
        return exponent << 23 | (int) (mantissa * (1 << 23)) - (1 << 23);
    }

    /** Of a number from 0 to 1 that is no subnormal one: doubling loses nothing of it. */
    private static long bitsOfDouble(double number) {
        if (!(number > 0)) {
            return 0;
        }
        double mantissa = number;
        long exponent = 1023;
        for (int i = 0; i < 1022 && mantissa < 1; i++) {
            mantissa *= 2;
            exponent--;
        }
        return exponent << 52 | (long) (mantissa * (1L << 52)) - (1L << 52);
    }

    /** What was told: policies, losses, the rule. */
    private static final class Book {
        final int[] limits = new int[POLICIES];
        final int[] aggregates = new int[POLICIES];
        final int[] deductibles = new int[POLICIES];
        final int[] values = new int[POLICIES];
        final int[] items = new int[POLICIES];
        final int[] kinds = new int[POLICIES];
        final int[] tos = new int[POLICIES];
        final int[] premiums = new int[POLICIES];
        final int[] sublimits = new int[POLICIES * ITEMS];
        final int[] worths = new int[ITEMS];
        final int[] lossItems = new int[LOSSES];
        final int[] amounts = new int[LOSSES];
        int policies;
        int losses;
        int rule;

        Book() {
            Arrays.fill(sublimits, NONE);
        }

        int everyone() {
            return (1 << policies) - 1;
        }

        int amountsTogether() {
            int sum = 0;
            for (int l = 0; l < losses && l < LOSSES; l++) {
                sum += amounts[l];
            }
            return sum;
        }

        int limitsOn(int item) {
            int sum = 0;
            for (int p = 0; p < policies && p < POLICIES; p++) {
                if (has(items[p], item)) {
                    sum += limits[p];
                }
            }
            return sum;
        }
    }

    /** Shares a sum among caps that are at least as much together, by either rule. */
    private static final class Divider {
        final int[] caps = new int[POLICIES];
        final int[] parts = new int[POLICIES];
        private final long[] lost = new long[POLICIES];

        void clear() {
            Arrays.fill(caps, 0);
        }

        int capsTogether() {
            int sum = 0;
            for (int p = 0; p < POLICIES; p++) {
                sum += caps[p];
            }
            return sum;
        }

        void divide(int rule, int due) {
            if (rule == 0) {
                divideByCaps(due);
            } else {
                divideInSteps(due);
            }
        }

        private void divideByCaps(int due) {
            Arrays.fill(parts, 0);
            long all = capsTogether();
            if (all <= 0) {
                return;
            }
            int rest = due;
            for (int p = 0; p < POLICIES; p++) {
                long product = (long) due * caps[p];
                parts[p] = (int) (product / all);
                lost[p] = product % all;
                rest -= parts[p];
            }
            for (int i = 0; i < rest && i < POLICIES; i++) {
                int most = mostLost();
                parts[most]++;
                lost[most] = 0;
            }
        }

        private int mostLost() {
            int most = 0;
            for (int p = 1; p < POLICIES; p++) {
                if (lost[p] > lost[most]) {
                    most = p;
                }
            }
            return most;
        }

        private void divideInSteps(int due) {
            int height = height(due);
            int rest = due;
            for (int p = 0; p < POLICIES; p++) {
                parts[p] = Math.min(caps[p], height);
                rest -= parts[p];
            }
            for (int p = 0; p < POLICIES && rest > 0; p++) {
                if (caps[p] > height) {
                    parts[p]++;
                    rest--;
                }
            }
        }

        /** Whoever has no cap above an even part of the rest is full; his cap is taken off first. */
        int height(int due) {
            int greatest = 0;
            int full = 0;
            int rest = due;
            int open = POLICIES;
            for (int turn = 0; turn <= POLICIES && open > 0; turn++) {
                int even = rest / open;
                int openAhead = open;
                for (int p = 0; p < POLICIES; p++) {
                    if ((full >> p & 1) == 0 && caps[p] <= even) {
                        full |= 1 << p;
                        greatest = caps[p] > greatest ? caps[p] : greatest;
                        rest -= caps[p];
                        open--;
                    }
                }
                if (open == openAhead) {
                    return even;
                }
            }
            return greatest;
        }
    }

    /** Who yields to whom in one loss, and what follows from it. */
    private static final class Web {
        final int[] kinds = new int[POLICIES];
        final int[] yields = new int[POLICIES];
        final int[] rings = new int[POLICIES];
        final int[] levelOf = new int[POLICIES];
        final int[] levelSets = new int[POLICIES];
        int in;
        int out;
        int levels;
        private final int[] reached = new int[POLICIES];

        void weave(int those, int[] tos) {
            in = those;
            for (int p = 0; p < POLICIES; p++) {
                boolean yielding = has(in, p) && kinds[p] >= EXCESS;
                yields[p] = yielding ? tos[p] & in & ~(1 << p) : 0;
                reached[p] = yields[p];
            }
            findRings();
            findLevels();
        }

        /** Who reaches himself is on a ring; on it are all that he reaches and that reach him. */
        private void findRings() {
            for (int by = 0; by < POLICIES; by++) {
                for (int p = 0; reached[by] != 0 && p < POLICIES; p++) {
                    if (has(reached[p], by)) {
                        reached[p] |= reached[by];
                    }
                }
            }
            for (int p = 0; p < POLICIES; p++) {
                rings[p] = 0;
                boolean onRing = has(reached[p], p);
                for (int q = 0; onRing && q < POLICIES; q++) {
                    if (has(reached[p], q) && has(reached[q], p)) {
                        rings[p] |= 1 << q;
                    }
                }
            }
        }

        /** Level by level: who yields truly only to those of the levels found so far. */
        private void findLevels() {
            Arrays.fill(levelOf, NONE);
            out = 0;
            levels = 0;
            int placed = 0;
            while (placed != in && levels < POLICIES) {
                int now = 0;
                for (int p = 0; p < POLICIES; p++) {
                    if (has(in & ~placed, p) && (trueYields(p) & ~placed) == 0) {
                        now |= 1 << p;
                        levelOf[p] = levels;
                        if (kinds[p] == ESCAPE && (trueYields(p) & ~out) != 0) {
                            out |= 1 << p;
                        }
                    }
                }
                levelSets[levels] = now;
                levels++;
                placed |= now;
            }
        }

        int trueYields(int p) {
            return yields[p] & ~rings[p];
        }

        int countYields() {
            int sum = 0;
            for (int p = 0; p < POLICIES; p++) {
                sum += Integer.bitCount(yields[p]);
            }
            return sum;
        }

        int countTrueYields() {
            int sum = 0;
            for (int p = 0; p < POLICIES; p++) {
                sum += Integer.bitCount(trueYields(p));
            }
            return sum;
        }

        /** A ring is met first, and counted, at its least number. */
        private boolean isLeastOfRing(int p) {
            return rings[p] != 0 && (rings[p] & (1 << p) - 1) == 0;
        }

        int countRings() {
            int sum = 0;
            for (int p = 0; p < POLICIES; p++) {
                if (isLeastOfRing(p)) {
                    sum++;
                }
            }
            return sum;
        }

        int ringAt(int k) {
            int met = 0;
            for (int p = 0; p < POLICIES; p++) {
                if (isLeastOfRing(p)) {
                    if (met == k) {
                        return rings[p];
                    }
                    met++;
                }
            }
            return NONE;
        }

        int fewestPlain() {
            int best = in;
            for (int set = 0; set <= in; set++) {
                boolean better = Integer.bitCount(set) < Integer.bitCount(best);
                if (better && (set & ~in) == 0 && isRinglessWith(set)) {
                    best = set;
                }
            }
            return best;
        }

        /** Whoever yields to none that is still looked at is on no ring, and is looked at no more. */
        private boolean isRinglessWith(int plain) {
            int open = in & ~plain;
            for (int turn = 0; turn < POLICIES && open != 0; turn++) {
                for (int p = 0; p < POLICIES; p++) {
                    if ((yields[p] & open) == 0) {
                        open &= ~(1 << p);
                    }
                }
            }
            return open == 0;
        }
    }

    /** The losses settled one behind the other; what is kept at the end is of the last one. */
    private static final class Settlement {
        final Book book = new Book();
        final Web web = new Web();
        final Divider divider = new Divider();
        int present;
        int rule;
        final int[] left = new int[POLICIES];
        final int[] ahead = new int[POLICIES];
        final int[] usedUpBy = new int[POLICIES];
        final int[] lones = new int[POLICIES];
        final int[] caps = new int[POLICIES];
        final int[] shares = new int[POLICIES];
        final int[] burdens = new int[POLICIES];
        int total;
        int allTotals;

        /** All as it was told; whoever asks what would be changes this before the settling. */
        void asBooked() {
            present = book.everyone();
            rule = book.rule;
            System.arraycopy(book.kinds, 0, web.kinds, 0, POLICIES);
        }

        void through(int last) {
            System.arraycopy(book.aggregates, 0, left, 0, POLICIES);
            Arrays.fill(usedUpBy, NONE);
            allTotals = 0;
            for (int l = 0; l <= last && l < LOSSES; l++) {
                int in = standAlone(book.lossItems[l], book.amounts[l]);
                web.weave(in, book.tos);
                shareOut(book.lossItems[l], book.amounts[l]);
                useUp(l);
            }
        }

        /** Gives those that are in. */
        private int standAlone(int item, int amount) {
            System.arraycopy(left, 0, ahead, 0, POLICIES);
            int in = 0;
            for (int p = 0; p < POLICIES; p++) {
                lones[p] = has(present, p) ? owed(p, item, amount) : 0;
                if (lones[p] > 0) {
                    in |= 1 << p;
                }
            }
            return in;
        }

        private int owed(int p, int item, int burden) {
            if (!has(book.items[p], item)) {
                return 0;
            }
            int limit = book.limits[p];
            int value = book.values[p];
            int sublimit = book.sublimits[p * ITEMS + item];
            int sum = burden;
            if (value > limit && value > 0) {
                sum = (int) ((long) burden * limit / value);
            }
            sum = Math.max(sum - book.deductibles[p], 0);
            sum = Math.min(Math.min(sum, limit), ahead[p]);
            return sublimit == NONE ? sum : Math.min(sum, sublimit);
        }

        private void shareOut(int item, int amount) {
            Arrays.fill(caps, 0);
            Arrays.fill(shares, 0);
            int burden = amount;
            for (int level = 0; level < web.levels && level < POLICIES; level++) {
                burdens[level] = burden;
                int paying = web.levelSets[level] & ~web.out;
                divider.clear();
                for (int p = 0; p < POLICIES; p++) {
                    if (has(paying, p)) {
                        caps[p] = owed(p, item, burden);
                        divider.caps[p] = caps[p];
                    }
                }
                int due = Math.min(burden, divider.capsTogether());
                divider.divide(rule, due);
                for (int p = 0; p < POLICIES; p++) {
                    shares[p] += divider.parts[p];
                }
                burden -= due;
            }
            total = amount - burden;
        }

        private void useUp(int l) {
            allTotals += total;
            for (int p = 0; p < POLICIES; p++) {
                left[p] -= shares[p];
                if (left[p] == 0 && usedUpBy[p] == NONE) {
                    usedUpBy[p] = l;
                }
            }
        }

        int usedUp() {
            int set = 0;
            for (int p = 0; p < POLICIES; p++) {
                if (has(present, p) && left[p] == 0) {
                    set |= 1 << p;
                }
            }
            return set;
        }

        int burdenOn(int policy) {
            int level = web.levelOf[policy];
            return within(level, 0, POLICIES - 1) ? burdens[level] : NONE;
        }

        int heightOf(int level) {
            divider.clear();
            for (int p = 0; p < POLICIES; p++) {
                if (has(web.levelSets[level], p)) {
                    divider.caps[p] = caps[p];
                }
            }
            return divider.height(Math.min(burdens[level], divider.capsTogether()));
        }

        /** The divider's parts are then what each pays more; gives what the insured lacks. */
        int makeGood(int broke) {
            int gap = 0;
            divider.clear();
            for (int p = 0; p < POLICIES; p++) {
                if (has(broke, p)) {
                    gap += shares[p];
                } else if (book.kinds[p] == PLAIN) {
                    divider.caps[p] = lones[p] - shares[p];
                }
            }
            int due = Math.min(gap, divider.capsTogether());
            divider.divide(rule, due);
            return gap - due;
        }

        /** What it pays, if the insured claims on it and has nothing yet. */
        int paidFirst(int p) {
            return book.kinds[p] == PLAIN ? lones[p] : shares[p];
        }

        int fewestClaimed() {
            int best = present;
            for (int set = 0; set <= present; set++) {
                boolean better = Integer.bitCount(set) < Integer.bitCount(best);
                if (better && isEnough(set)) {
                    best = set;
                }
            }
            return best;
        }

        private boolean isEnough(int set) {
            int sum = 0;
            for (int p = 0; p < POLICIES; p++) {
                if (has(set, p)) {
                    sum += paidFirst(p);
                }
            }
            return sum >= total;
        }
    }

    /** The shortest row from one to another one. */
    private static final class Way {
        final int[] row = new int[POLICIES];
        private final int[] rounds = new int[POLICIES];

        /** How many are in the row; 0 without one. */
        int find(int[] yields, int one, int other) {
            measure(yields, other);
            if (!within(rounds[one], 1, POLICIES - 1)) {
                return 0;
            }
            int at = one;
            row[0] = one;
            for (int k = 1; k <= rounds[one]; k++) {
                at = leastNearer(yields, at);
                row[k] = at;
            }
            return rounds[one] + 1;
        }

        /** How far each is from the end of the row (NONE: no way). */
        private void measure(int[] yields, int end) {
            Arrays.fill(rounds, NONE);
            rounds[end] = 0;
            int near = 1 << end;
            for (int round = 1; round < POLICIES; round++) {
                int wider = near;
                for (int p = 0; p < POLICIES; p++) {
                    if (!has(near, p) && (yields[p] & near) != 0) {
                        rounds[p] = round;
                        wider |= 1 << p;
                    }
                }
                near = wider;
            }
        }

        private int leastNearer(int[] yields, int at) {
            for (int p = 0; p < POLICIES; p++) {
                if (has(yields[at], p) && rounds[p] == rounds[at] - 1) {
                    return p;
                }
            }
            return at;
        }
    }

    /** What the insured claims, who pays first, who pays whom back. */
    private static final class Claim {
        final int[] firsts = new int[POLICIES];
        final int[] payers = new int[INSURED + 1];
        final int[] payees = new int[INSURED + 1];
        final int[] sums = new int[INSURED + 1];
        int paid;
        int payments;
        private final int[] order = new int[POLICIES];
        private int claims;
        private final int[] balances = new int[INSURED + 1];

        /** False: the row can't be. */
        boolean read(long digits, int policies) {
            claims = 0;
            long rest = digits;
            int met = 0;
            for (int i = 0; i < POLICIES && rest > 0; i++) {
                int p = (int) (rest % ROW_BASE) - 1;
                if (!within(p, 0, policies - 1) || has(met, p)) {
                    return false;
                }
                met |= 1 << p;
                order[i] = p;
                claims++;
                rest /= ROW_BASE;
            }
            return rest == 0;
        }

        void pay(Settlement settlement) {
            Arrays.fill(firsts, 0);
            paid = 0;
            for (int i = 0; i < claims && i < POLICIES; i++) {
                int p = order[i];
                firsts[p] = Math.min(settlement.paidFirst(p), settlement.total - paid);
                paid += firsts[p];
            }
        }

        /** Every payment brings one balance to 0, so there are never more than balances. */
        void recover(int[] shares, int total) {
            payments = 0;
            balances[INSURED] = paid - total;
            for (int p = 0; p < POLICIES; p++) {
                balances[p] = firsts[p] - shares[p];
            }
            for (int turn = 0; turn <= INSURED; turn++) {
                int payer = leastBelow();
                int payee = balances[INSURED] < 0 ? INSURED : leastAbove();
                if (payer == NONE || payee == NONE) {
                    return;
                }
                settleBetween(payer, payee);
            }
        }

        private int leastBelow() {
            for (int p = 0; p < POLICIES; p++) {
                if (balances[p] < 0) {
                    return p;
                }
            }
            return NONE;
        }

        private int leastAbove() {
            for (int p = 0; p < POLICIES; p++) {
                if (balances[p] > 0) {
                    return p;
                }
            }
            return NONE;
        }

        private void settleBetween(int payer, int payee) {
            int sum = Math.min(-balances[payer], Math.abs(balances[payee]));
            balances[payer] += sum;
            balances[payee] += payee == INSURED ? sum : -sum;
            payers[payments] = payer;
            payees[payments] = payee;
            sums[payments] = sum;
            payments++;
        }
    }

    /** A drawer for each kind of clause, their places in one row. */
    private static final class Drawers {
        final int[] policies = new int[DRAWERS * PLACES];
        final int[] tos = new int[DRAWERS * PLACES];

        Drawers() {
            Arrays.fill(policies, NONE);
        }

        void put(int at, int policy, int to) {
            policies[at] = policy;
            tos[at] = to;
        }
    }
}
