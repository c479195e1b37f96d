import java.lang.reflect.InvocationTargetException;
import java.lang.reflect.Method;
import java.util.ArrayList;
import java.util.Arrays;
import java.util.HashMap;
import java.util.List;
import java.util.Map;
import java.util.NoSuchElementException;
import java.util.TreeSet;

/** Every call with the edges of every argument, in states from empty to full, each answer against Naive. */
final class EveryEdgeTest extends Checks {
    /**
     * A call and what its arguments may be: bounds (p: policies, l: losses, s: sets of policies as far as there are
     * any), b a boolean, row a claim.
     */
    private static final String[] CHANGING = {
        "policy 1..1000000 1..9000000 0..99999 0..9000000 1..255", "clause 0..p 0..3 0..255", "limit 0..p 1..1000000",
        "sub 0..p 0..7 -1..1000000", "value b 0..p,0..7 0..99999,0..9000000", "loss 0..7 1..1000000", "revoke", "rule",
        "file 0..3 0..7 0..p",
    };
    private static final String[] ASKING = {
        "count 0..5", "of 0..p 0..10,20..27", "settled 0..l 0..8", "share 0..l 0..p 0..8", "part 0..l 0..p", "strain 0..l 0..p",
        "step 0..l 0..7", "level 0..l 0..7", "ring 0..l 0..3", "way 0..l 0..p 0..p -1..7", "claimed 0..l row -1..p",
        "recovery 0..l row -1..8 0..2", "broke 0..l 0..s -1..p", "without 0..l 0..p", "other 0..l 0..p", "set 0..l 0..s",
        "shapley 0..l 0..p", "returned -1..p 0..7", "ringless 0..l b", "fewest 0..l b", "moved 0..l 0..p 0..3",
        "filed 0..3 0..7 b",
    };

    private static final String[] STATES = {
        "",
        "policy 1 1 0 0 1",
        "policy 1000000 9000000 99999 9000000 255; policy 10 10 0 0 128; clause 0 3 255; sub 1 7 0; rule",
        "loss 0 1; loss 7 1000000",
        "policy 400 900 5 0 3; policy 600 2000 0 700 1; policy 300 300 0 0 7; clause 1 2 4; clause 2 3 11; sub 0 1 250; "
            + "value false 0 99; value true 0 800; loss 0 650; loss 1 260; rule; file 2 3 1; file 0 0 0",
        "policy 10 1000 0 0 1; policy 10 1000 0 0 1; policy 10 20 0 0 1; policy 9 1000 0 0 1; policy 8 1000 1 0 1; "
            + "policy 10 1000 0 15 1; policy 10 1000 0 0 1; clause 0 2 2; clause 1 3 5; clause 2 2 1; clause 4 3 32; clause 5 3 8; "
            + "clause 6 2 49; loss 0 35; loss 0 10; loss 0 60",
        "policy 80 80 0 0 255; policy 80 160 3 0 255; policy 70 900 0 100 255; policy 60 900 0 0 15; policy 50 900 0 0 255; "
            + "policy 40 900 0 0 255; policy 30 900 0 0 255; policy 20 900 0 0 255; clause 1 1 255; clause 2 2 8; clause 3 2 4; "
            + "clause 4 3 1; clause 5 3 48; clause 6 2 255; value false 7 99999; value true 0 1; value true 7 300; sub 7 0 0; "
            + "loss 0 200; loss 7 1; loss 0 90; loss 4 33; loss 1 1000000; loss 0 100; loss 0 80; loss 2 250; loss 3 7; loss 7 400; "
            + "file 1 7 1; file 3 0 4; file 0 0 0",
    };

    private static final int MOST_CALLS = 500;
    private static final Map<String, Method> MINE = new HashMap<>();
    private static final Map<String, Method> NAIVE = new HashMap<>();

    private static String state;
    private static int policies;
    private static int losses;
    private static CoverRings got;
    private static Naive want;
    private static int calls;

    public static void main(String[] args) throws NoSuchMethodException {
        for (Method m : CoverRings.class.getDeclaredMethods()) {
            if (java.lang.reflect.Modifier.isPublic(m.getModifiers())) {
                MINE.put(m.getName(), m);
                NAIVE.put(m.getName(), Naive.class.getDeclaredMethod(m.getName(), m.getParameterTypes()));
            }
        }
        due("calls of the face", CHANGING.length + ASKING.length, MINE.size());
        for (String each : STATES) {
            state = each;
            build();
            policies = got.count(0);
            losses = got.count(1);
            sentence("a state of " + policies + " policies and " + losses + " losses", EveryEdgeTest::allCalls);
        }
        end();
    }

    private static void allCalls() {
        for (String call : ASKING) {
            everyEdge(call, false);
        }
        for (String call : CHANGING) {
            everyEdge(call, true);
        }
    }

    private static void build() {
        got = new CoverRings();
        want = new Naive();
        calls = 0;
        for (String told : state.split("; ")) {
            if (!told.isEmpty()) {
                String[] words = told.split(" ");
                Object[] args = new Object[words.length - 1];
                for (int i = 0; i < args.length; i++) {
                    args[i] = words[i + 1].matches("true|false") ? (Object) Boolean.valueOf(words[i + 1]) : Integer.valueOf(words[i + 1]);
                }
                both(words[0], args);
            }
        }
    }

    /** All rows of edges; of very many, those in which at most two arguments are not the least that can be. */
    private static void everyEdge(String call, boolean changing) {
        String[] words = call.split(" ");
        List<List<Object>> edges = new ArrayList<>();
        long rows = 1;
        for (int i = 1; i < words.length; i++) {
            edges.add(edgesOf(words[i]));
            rows *= edges.get(i - 1).size();
        }
        Object[] args = new Object[edges.size()];
        fill(words[0], args, 0, edges, rows > 20_000 ? 2 : args.length, changing);
    }

    private static void fill(String name, Object[] args, int at, List<List<Object>> edges, int free, boolean changing) {
        if (at == args.length) {
            ask(name, args, changing);
            return;
        }
        args[at] = edges.get(at).get(0);
        fill(name, args, at + 1, edges, free, changing);
        for (int i = 1; i < edges.get(at).size() && free > 0; i++) {
            args[at] = edges.get(at).get(i);
            fill(name, args, at + 1, edges, free - 1, changing);
        }
    }

    private static void ask(String name, Object[] args, boolean changing) {
        if (changing || calls >= MOST_CALLS) {
            build();
        }
        both(name, args);
        if (changing) {
            asTold();
        }
    }

    /** What was told, asked of both: a call that is refused leaves it as it was, another one changes what it should. */
    private static void asTold() {
        for (int what = 0; what <= 2; what++) {
            both("count", what);
        }
        for (int p = 0; p < want.policies.size(); p++) {
            for (int what = 0; what <= 27; what = what == 6 ? 9 : what == 9 ? 20 : what + 1) {
                both("of", p, what);
            }
        }
        for (int l = 0; l < want.losses.size(); l++) {
            both("settled", l, 0);
            both("settled", l, 1);
        }
        for (int item = 0; item < 8; item++) {
            both("returned", -1, item);
        }
        for (int place = 0; place < 32; place++) {
            both("filed", place / 8, place % 8, false);
            both("filed", place / 8, place % 8, true);
        }
    }

    private static void both(String name, Object... args) {
        calls++;
        long mine = answer(MINE.get(name), got, args);
        long naive = answer(NAIVE.get(name), want, args);
        if (mine != naive) {
            due(name + Arrays.toString(args) + " behind " + state, mine, naive);
        }
    }

    private static long answer(Method method, Object on, Object[] args) {
        try {
            Object answer = method.invoke(on, args);
            return answer instanceof Boolean ? bit((Boolean) answer) : ((Number) answer).longValue();
        } catch (InvocationTargetException e) {
            if (e.getCause() instanceof NoSuchElementException) {
                return THROWN;
            }
            fault(method.getName() + Arrays.toString(args) + " behind " + state + " threw " + e.getCause());
            return THROWN + 1;
        } catch (IllegalAccessException e) {
            throw new IllegalStateException(e);
        }
    }

    /** The first one is one that can be, if any can. */
    private static List<Object> edgesOf(String domain) {
        List<Object> edges = new ArrayList<>();
        if (domain.equals("b")) {
            edges.add(false);
            edges.add(true);
        } else if (domain.equals("row")) {
            edges.addAll(rows());
        } else {
            TreeSet<Integer> found = new TreeSet<>(List.of(-2, -1, 0, LEAST_INT, GREATEST_INT));
            int least = 0;
            for (String bounds : domain.split(",")) {
                String[] ends = bounds.split("\\.\\.");
                least = Integer.parseInt(ends[0]);
                int most = most(ends[1]);
                found.addAll(List.of(least - 1, least, least + 1, most - 1, most, most + 1));
            }
            found.remove(least);
            edges.add(least);
            edges.addAll(found);
        }
        return edges;
    }

    private static int most(String end) {
        switch (end) {
            case "p": return policies - 1;
            case "l": return losses - 1;
            case "s": return (1 << policies) - 1;
            default: return Integer.parseInt(end);
        }
    }

    private static List<Long> rows() {
        int[] rising = new int[policies];
        int[] falling = new int[policies];
        for (int p = 0; p < policies; p++) {
            rising[p] = p;
            falling[p] = policies - 1 - p;
        }
        long all = row(rising);
        long back = row(falling);
        long beyond = 1;
        for (int p = 0; p < policies; p++) {
            beyond *= 9;
        }
        TreeSet<Long> rows = new TreeSet<>(List.of(0L, 1L, 2L, 8L, 9L, 10L, 11L, 19L, all, back, -all, all + beyond, all + 9 * beyond,
                back + (policies + 1) * beyond, (long) policies, policies + 1L, row(0, 0), row(0, 1, 0), -1L, 1L << 32 | 1,
                Long.MAX_VALUE, Long.MIN_VALUE));
        return new ArrayList<>(rows);
    }
}
