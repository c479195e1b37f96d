import java.util.ArrayList;
import java.util.Collections;
import java.util.Comparator;
import java.util.List;
import java.util.NoSuchElementException;
import java.util.TreeSet;

/**
 * The document read word by word, slowly and with the whole library: what the random runs compare
 * CoverRings with. It shares no code and, where there is a choice, no method with the class.
 */
final class Naive {
    static final class Policy {
        int limit, aggregate, deductible, value, items, kind, to, premium;
        final Integer[] sub = new Integer[8];
    }

    /** One loss as it was settled. */
    static final class Result {
        final int[] left = new int[8], lone = new int[8], level = new int[8], cap = new int[8],
                share = new int[8], burden = new int[8];
        final List<TreeSet<Integer>> yields = new ArrayList<>(), truly = new ArrayList<>(), ring = new ArrayList<>();
        final TreeSet<Integer> in = new TreeSet<>(), out = new TreeSet<>();
        int levels, total;
    }

    final List<Policy> policies = new ArrayList<>();
    final List<int[]> losses = new ArrayList<>();
    final int[] worth = new int[8];
    final int[][][] drawers = new int[4][8][];
    int rule;

    private static boolean fits(long n, long least, long most) { return least <= n && n <= most; }
    private boolean noPolicy(int p) { return !fits(p, 0, policies.size() - 1); }
    private boolean noLoss(int l) { return !fits(l, 0, losses.size() - 1); }
    private int all() { return (1 << policies.size()) - 1; }
    private static int bits(Iterable<Integer> set) { int b = 0; for (int p : set) b |= 1 << p; return b; }

    // ---- what there is

    int policy(int limit, int aggregate, int deductible, int value, int items) {
        if (!fits(limit, 1, 1_000_000) || !fits(aggregate, 1, 9_000_000) || !fits(deductible, 0, 99_999)
                || !fits(value, 0, 9_000_000) || !fits(items, 1, 255) || policies.size() == 8) return -1;
        Policy p = new Policy();
        p.limit = limit; p.aggregate = aggregate; p.deductible = deductible; p.value = value; p.items = items;
        policies.add(p);
        return policies.size() - 1;
    }

    boolean clause(int policy, int kind, int to) {
        if (noPolicy(policy) || !fits(kind, 0, 3) || !fits(to, 0, 255)) return false;
        Policy p = policies.get(policy);
        if (p.kind == kind && p.to == to) return false;
        p.kind = kind; p.to = to;
        return true;
    }

    boolean limit(int policy, int limit) {
        if (noPolicy(policy) || !fits(limit, 1, 1_000_000) || policies.get(policy).limit == limit) return false;
        policies.get(policy).limit = limit;
        return true;
    }

    boolean sub(int policy, int item, int v) {
        if (noPolicy(policy) || !fits(item, 0, 7) || !fits(v, -1, 1_000_000)) return false;
        Integer now = policies.get(policy).sub[item];
        if (now == null ? v == -1 : now == v) return false;
        policies.get(policy).sub[item] = v == -1 ? null : Integer.valueOf(v);
        return true;
    }

    boolean value(boolean isWorth, int k, int v) {
        if (isWorth) {
            if (!fits(k, 0, 7) || !fits(v, 0, 9_000_000) || worth[k] == v) return false;
            worth[k] = v;
        } else {
            if (noPolicy(k) || !fits(v, 0, 99_999) || policies.get(k).premium == v) return false;
            policies.get(k).premium = v;
        }
        return true;
    }

    int loss(int item, int amount) {
        if (!fits(item, 0, 7) || !fits(amount, 1, 1_000_000) || losses.size() == 10) return -1;
        losses.add(new int[] {item, amount});
        return losses.size() - 1;
    }

    int revoke() {
        if (losses.isEmpty()) return -1;
        losses.remove(losses.size() - 1);
        return losses.size();
    }

    int rule() { return rule = rule == 0 ? 1 : 0; }

    int count(int what) {
        List<Result> results = what == 3 || what == 5 ? settle(all(), rule) : List.of();
        int sum = 0;
        switch (what) {
            case 0: return policies.size();
            case 1: return losses.size();
            case 2: return rule;
            case 3: for (Result r : results) sum += r.total; return sum;
            case 4: for (int[] l : losses) sum += l[1]; return sum;
            case 5: for (int p = 0; p < policies.size(); p++) if (leftBehind(results, p) == 0) sum |= 1 << p; return sum;
            default: return -1;
        }
    }

    private int leftBehind(List<Result> results, int p) {
        int left = policies.get(p).aggregate;
        for (Result r : results) left -= r.share[p];
        return left;
    }

    int of(int policy, int what) {
        if (noPolicy(policy)) throw new NoSuchElementException();
        Policy p = policies.get(policy);
        List<Result> results = what == 7 || what == 8 || what == 10 ? settle(all(), rule) : List.of();
        switch (what) {
            case 0: return p.limit;
            case 1: return p.aggregate;
            case 2: return p.deductible;
            case 3: return p.value;
            case 4: return p.items;
            case 5: return p.kind;
            case 6: return p.to;
            case 7: return leftBehind(results, policy);
            case 8: { int sum = 0; for (Result r : results) sum += r.share[policy]; return sum; }
            case 9: return p.premium;
            case 10: for (int l = 0; l < results.size(); l++) if (leftBehind(results.subList(0, l + 1), policy) == 0) return l; return -1;
            default:
                if (!fits(what, 20, 27)) throw new NoSuchElementException();
                return p.sub[what - 20] == null ? -1 : p.sub[what - 20];
        }
    }

    // ---- settling

    private int owes(int p, long a, int item, int left) {
        Policy it = policies.get(p);
        if ((it.items >> item & 1) == 0) return 0;
        long n = it.value > it.limit ? Math.floorDiv(a * it.limit, (long) it.value) : a;
        n = Math.max(0, n - it.deductible);
        n = Math.min(n, it.limit);
        if (it.sub[item] != null) n = Math.min(n, it.sub[item]);
        return (int) Math.min(n, left);
    }

    private List<Result> settle(int set, int byRule) {
        List<Result> done = new ArrayList<>();
        for (int[] l : losses) {
            Result r = new Result();
            for (int p = 0; p < policies.size(); p++) r.left[p] = leftBehind(done, p);
            settleOne(r, set, byRule, l[0], l[1]);
            done.add(r);
        }
        return done;
    }

    private void settleOne(Result r, int set, int byRule, int item, int amount) {
        for (int p = 0; p < policies.size(); p++) {
            if ((set >> p & 1) != 0) r.lone[p] = owes(p, amount, item, r.left[p]);
            if (r.lone[p] > 0) r.in.add(p);
        }
        for (int p = 0; p < 8; p++) {
            TreeSet<Integer> to = new TreeSet<>();
            for (int q : r.in)
                if (r.in.contains(p) && q != p && policies.get(p).kind >= 2 && (policies.get(p).to >> q & 1) != 0) to.add(q);
            r.yields.add(to);
        }
        for (int p = 0; p < 8; p++) {
            r.ring.add(ringOf(r.yields, p));
            TreeSet<Integer> true_ = new TreeSet<>(r.yields.get(p));
            true_.removeAll(r.ring.get(p));
            r.truly.add(true_);
        }
        for (int p = 0; p < 8; p++) r.level[p] = r.in.contains(p) ? levelOf(r, p) : -1;
        for (int p : r.in) if (isOut(r, p)) r.out.add(p);
        for (int p : r.in) r.levels = Math.max(r.levels, r.level[p] + 1);
        for (int level = 0; level < r.levels; level++) {
            int burden = amount;
            for (int p : r.in) if (r.level[p] < level) burden -= r.share[p];
            int[] caps = new int[8];
            for (int p : r.in) {
                if (r.level[p] != level) continue;
                if (!r.out.contains(p)) caps[p] = owes(p, burden, item, r.left[p]);
                r.cap[p] = caps[p];
                r.burden[p] = burden;
            }
            int[] parts = split(byRule, Math.min(burden, sum(caps)), caps);
            for (int p = 0; p < 8; p++) r.share[p] += parts[p];
        }
        r.total = sum(r.share);
    }

    private static boolean leads(List<TreeSet<Integer>> yields, int from, int to, TreeSet<Integer> met) {
        for (int q : yields.get(from))
            if (q == to || met.add(q) && leads(yields, q, to, met)) return true;
        return false;
    }

    private static TreeSet<Integer> ringOf(List<TreeSet<Integer>> yields, int p) {
        TreeSet<Integer> ring = new TreeSet<>();
        for (int q = 0; q < 8; q++)
            if (q != p && leads(yields, p, q, new TreeSet<>()) && leads(yields, q, p, new TreeSet<>())) ring.add(q);
        if (!ring.isEmpty()) ring.add(p);
        return ring;
    }

    private static int levelOf(Result r, int p) {
        int level = 0;
        for (int q : r.truly.get(p)) level = Math.max(level, levelOf(r, q) + 1);
        return level;
    }

    private boolean isOut(Result r, int p) {
        if (policies.get(p).kind != 3) return false;
        for (int q : r.truly.get(p)) if (!isOut(r, q)) return true;
        return false;
    }

    private static int sum(int[] row) { int s = 0; for (int n : row) s += n; return s; }

    static int height(int due, int[] caps) {
        int low = 0, high = 0;
        for (int c : caps) high = Math.max(high, c);
        while (low < high) {
            int middle = low + (high - low + 1) / 2;
            long together = 0;
            for (int c : caps) together += Math.min(c, middle);
            if (together <= due) low = middle; else high = middle - 1;
        }
        return low;
    }

    static int[] split(int byRule, int due, int[] caps) {
        int[] parts = new int[8];
        long all = sum(caps);
        if (all == 0) return parts;
        int rest = due;
        if (byRule == 0) {
            List<Integer> order = new ArrayList<>();
            for (int p = 0; p < 8; p++) { parts[p] = (int) ((long) due * caps[p] / all); rest -= parts[p]; order.add(p); }
            order.sort(Comparator.comparingLong((Integer p) -> -((long) due * caps[p] % all)).thenComparingInt(p -> p));
            for (int i = 0; i < rest; i++) parts[order.get(i)]++;
        } else {
            int h = height(due, caps);
            for (int p = 0; p < 8; p++) { parts[p] = Math.min(caps[p], h); rest -= parts[p]; }
            for (int p = 0; p < 8; p++) if (caps[p] > h && rest > 0) { parts[p]++; rest--; }
        }
        return parts;
    }

    private Result result(int loss) { return settle(all(), rule).get(loss); }

    // ---- a loss

    int settled(int loss, int what) {
        if (noLoss(loss)) return -1;
        Result r = result(loss);
        int sum = 0;
        switch (what) {
            case 0: return losses.get(loss)[0];
            case 1: return losses.get(loss)[1];
            case 2: return r.total;
            case 3: return bits(r.in);
            case 4: return bits(r.out);
            case 5: return rings(r).size();
            case 6: return r.levels;
            case 7: for (TreeSet<Integer> y : r.yields) sum += y.size(); return sum;
            case 8: for (TreeSet<Integer> y : r.truly) sum += y.size(); return sum;
            default: return -1;
        }
    }

    private static List<TreeSet<Integer>> rings(Result r) {
        List<TreeSet<Integer>> rings = new ArrayList<>();
        for (TreeSet<Integer> ring : r.ring) if (!ring.isEmpty() && !rings.contains(ring)) rings.add(ring);
        rings.sort(Comparator.comparing(TreeSet::first));
        return rings;
    }

    int share(int loss, int policy, int what) {
        if (noLoss(loss) || noPolicy(policy) || !fits(what, 0, 8)) throw new NoSuchElementException();
        Result r = result(loss);
        switch (what) {
            case 0: return r.lone[policy];
            case 1: return r.level[policy];
            case 2: return r.cap[policy];
            case 3: return r.share[policy];
            case 4: return bits(r.ring.get(policy));
            case 5: return bits(r.yields.get(policy));
            case 6: return bits(r.truly.get(policy));
            case 7: return r.left[policy];
            default: return r.in.contains(policy) ? r.burden[policy] : -1;
        }
    }

    int part(int loss, int policy) {
        if (noLoss(loss) || noPolicy(policy) || result(loss).total == 0) return -1;
        return Float.floatToIntBits((float) result(loss).share[policy] / (float) result(loss).total);
    }

    long strain(int loss, int policy) {
        if (noLoss(loss) || noPolicy(policy)) return -1;
        return Double.doubleToLongBits((double) result(loss).share[policy] / policies.get(policy).limit);
    }

    int step(int loss, int level) {
        if (noLoss(loss)) return -1;
        Result r = result(loss);
        if (!fits(level, 0, r.levels - 1)) return -1;
        int[] caps = new int[8];
        int burden = 0;
        for (int p : r.in) if (r.level[p] == level) { caps[p] = r.cap[p]; burden = r.burden[p]; }
        return height(Math.min(burden, sum(caps)), caps);
    }

    int level(int loss, int level) {
        if (noLoss(loss)) return -1;
        Result r = result(loss);
        if (!fits(level, 0, r.levels - 1)) return -1;
        int set = 0;
        for (int p : r.in) if (r.level[p] == level) set |= 1 << p;
        return set;
    }

    int ring(int loss, int k) {
        if (noLoss(loss)) return -1;
        List<TreeSet<Integer>> rings = rings(result(loss));
        return fits(k, 0, rings.size() - 1) ? bits(rings.get(k)) : -1;
    }

    int way(int loss, int one, int other, int k) {
        if (noLoss(loss) || noPolicy(one) || noPolicy(other) || one == other) return -1;
        List<List<Integer>> ways = new ArrayList<>();
        allWays(result(loss).yields, new ArrayList<>(List.of(one)), other, ways);
        if (ways.isEmpty()) return -1;
        List<Integer> best = ways.get(0);
        for (List<Integer> w : ways) if (w.size() < best.size() || w.size() == best.size() && lesser(w, best)) best = w;
        return k == -1 ? best.size() : fits(k, 0, best.size() - 1) ? best.get(k) : -1;
    }

    private static boolean lesser(List<Integer> a, List<Integer> b) {
        for (int i = 0; i < a.size(); i++) if (!a.get(i).equals(b.get(i))) return a.get(i) < b.get(i);
        return false;
    }

    private static void allWays(List<TreeSet<Integer>> yields, List<Integer> so, int end, List<List<Integer>> ways) {
        int at = so.get(so.size() - 1);
        if (at == end) { ways.add(new ArrayList<>(so)); return; }
        for (int q : yields.get(at)) {
            if (so.contains(q)) continue;
            so.add(q);
            allWays(yields, so, end, ways);
            so.remove(so.size() - 1);
        }
    }

    // ---- claims

    private List<Integer> row(long number) {
        List<Integer> row = new ArrayList<>();
        if (number < 0) return null;
        if (number == 0) return row;
        String digits = new StringBuilder(Long.toString(number, 9)).reverse().toString();
        for (char c : digits.toCharArray()) {
            int p = c - '1';
            if (noPolicy(p) || row.contains(p)) return null;
            row.add(p);
        }
        return row;
    }

    private int[] firsts(Result r, List<Integer> row) {
        int[] firsts = new int[8];
        for (int p : row) firsts[p] = Math.min(policies.get(p).kind == 0 ? r.lone[p] : r.share[p], r.total - sum(firsts));
        return firsts;
    }

    int claimed(int loss, long number, int policy) {
        if (noLoss(loss) || policy != -1 && noPolicy(policy) || row(number) == null) return -1;
        int[] firsts = firsts(result(loss), row(number));
        return policy == -1 ? sum(firsts) : firsts[policy];
    }

    int recovery(int loss, long number, int k, int what) {
        if (noLoss(loss) || row(number) == null || !fits(what, 0, 2)) return -1;
        Result r = result(loss);
        int[] firsts = firsts(r, row(number));
        int[] balance = new int[9];
        for (int p = 0; p < 8; p++) balance[p] = firsts[p] - r.share[p];
        balance[8] = sum(firsts) - r.total;
        List<int[]> payments = new ArrayList<>();
        while (true) {
            int payer = 0;
            while (payer < 8 && balance[payer] >= 0) payer++;
            if (payer == 8) break;
            int payee = 8;
            if (balance[8] >= 0) { payee = 0; while (balance[payee] <= 0) payee++; }
            int much = Math.min(-balance[payer], payee == 8 ? -balance[8] : balance[payee]);
            balance[payer] += much;
            balance[payee] += payee == 8 ? much : -much;
            payments.add(new int[] {payer, payee, much});
        }
        return k == -1 ? payments.size() : fits(k, 0, payments.size() - 1) ? payments.get(k)[what] : -1;
    }

    int broke(int loss, int broke, int policy) {
        if (noLoss(loss) || policy != -1 && noPolicy(policy) || !fits(broke, 0, all())) return -1;
        Result r = result(loss);
        int gap = 0;
        int[] rooms = new int[8];
        for (int p = 0; p < policies.size(); p++) {
            if ((broke >> p & 1) != 0) gap += r.share[p];
            else if (policies.get(p).kind == 0) rooms[p] = r.lone[p] - r.share[p];
        }
        int good = Math.min(gap, sum(rooms));
        if (policy == -1) return gap - good;
        return (broke >> policy & 1) != 0 ? 0 : r.share[policy] + split(rule, good, rooms)[policy];
    }

    // ---- what would be

    int without(int loss, int policy) {
        if (noLoss(loss) || noPolicy(policy)) return -1;
        return settle(all() - (1 << policy), rule).get(loss).total;
    }

    int other(int loss, int policy) {
        if (noLoss(loss) || noPolicy(policy)) return -1;
        return settle(all(), 1 - rule).get(loss).share[policy];
    }

    int set(int loss, int set) {
        if (noLoss(loss) || !fits(set, 0, all())) return -1;
        return settle(set, rule).get(loss).total;
    }

    long shapley(int loss, int policy) {
        if (noLoss(loss) || noPolicy(policy)) return -1;
        int[] totals = new int[all() + 1];
        for (int set = 0; set <= all(); set++) totals[set] = set(loss, set);
        return orders(totals, 0, policy);
    }

    /** Every order one by one, from the set that is there already. */
    private long orders(int[] totals, int there, int policy) {
        long sum = 0;
        for (int p = 0; p < policies.size(); p++) {
            if ((there >> p & 1) != 0) continue;
            int then = there | 1 << p;
            if (p == policy) {
                long behind = 1;
                for (int i = 2; i <= policies.size() - Integer.bitCount(then); i++) behind *= i;
                sum += behind * (totals[then] - totals[there]);
            } else {
                sum += orders(totals, then, policy);
            }
        }
        return sum;
    }

    int returned(int policy, int item) {
        if (!fits(item, 0, 7) || worth[item] == 0 || policy != -1 && noPolicy(policy)) return -1;
        long limits = 0;
        for (Policy p : policies) if ((p.items >> item & 1) != 0) limits += p.limit;
        long over = Math.max(0, limits - worth[item]);
        if (policy == -1) return (int) over;
        if ((policies.get(policy).items >> item & 1) == 0) return -1;
        return (int) (policies.get(policy).premium * over / limits);
    }

    int ringless(int loss, boolean asBits) {
        if (noLoss(loss)) return -1;
        Result r = result(loss);
        List<Integer> sets = bySize();
        for (int set : sets) {
            List<TreeSet<Integer>> yields = new ArrayList<>();
            for (int p = 0; p < 8; p++) yields.add((set >> p & 1) != 0 ? new TreeSet<>() : r.yields.get(p));
            boolean none = true;
            for (int p = 0; p < 8; p++) none &= ringOf(yields, p).isEmpty();
            if (none) return asBits ? set : Integer.bitCount(set);
        }
        throw new AssertionError();
    }

    private List<Integer> bySize() {
        List<Integer> sets = new ArrayList<>();
        for (int set = 0; set <= all(); set++) sets.add(set);
        Collections.sort(sets, Comparator.comparingInt((Integer s) -> Integer.bitCount(s)).thenComparingInt(s -> s));
        return sets;
    }

    int fewest(int loss, boolean asBits) {
        if (noLoss(loss)) return -1;
        Result r = result(loss);
        for (int set : bySize()) {
            List<Integer> row = new ArrayList<>();
            for (int p = 7; p >= 0; p--) if ((set >> p & 1) != 0) row.add(p);
            if (sum(firsts(r, row)) == r.total) return asBits ? set : Integer.bitCount(set);
        }
        throw new AssertionError();
    }

    int moved(int loss, int policy, int kind) {
        if (noLoss(loss) || noPolicy(policy) || !fits(kind, 0, 3)) return -1;
        int[] now = result(loss).share;
        int kept = policies.get(policy).kind;
        policies.get(policy).kind = kind;
        int[] then = result(loss).share;
        policies.get(policy).kind = kept;
        int n = 0;
        for (int p = 0; p < 8; p++) if (now[p] != then[p]) n++;
        return n;
    }

    // ---- drawers

    int file(int drawer, int place, int policy) {
        if (!fits(drawer, 0, 3) || !fits(place, 0, 7) || noPolicy(policy)) return -1;
        if (policies.get(policy).kind != drawer) return -2;
        drawers[drawer][place] = new int[] {policy, policies.get(policy).to};
        return 0;
    }

    int filed(int drawer, int place, boolean to) {
        if (!fits(drawer, 0, 3) || !fits(place, 0, 7)) return -1;
        int[] there = drawers[drawer][place];
        return there == null ? -2 : there[to ? 1 : 0];
    }
}
