import java.math.BigInteger;
import java.util.Arrays;
import java.util.HashMap;
import java.util.Map;
import java.util.Random;

/**
 * Promises 12 to 18 with 8 to 12 THINGS, of which Model can not list the ORDERS: here they are counted from the last
 * THING back, with one told more for each question; the seed is fixed, so every run is the same.
 */
public final class ManyThingsTest {
    private static final Due due = new Due();
    private static final Random random = new Random(44);

    public static void main(String[] args) {
        for (int i = 0; i < 120; i++) {
            int things = 8 + i % 5;
            int[] later = new int[things];
            String text = write(later, random.nextInt(20), i % 4 == 3);
            BeastFloor x = due.told(text);
            int[] ahead = closed(later);
            same(text, x, later, ahead);
            if (ringed(ahead) != 0) {
                inRing(text, x, later);
            } else {
                ranks(text, x, ahead);
                likelihoods(text, x, ahead);
                someOrders(text, x, ahead);
            }
        }
        due.end();
    }

    /** THINGS and what is told of them; gives may go against the numbers, but, unless a RING is wanted, along a mixed row. */
    private static String write(int[] later, int gives, boolean ring) {
        int n = later.length;
        StringBuilder text = new StringBuilder();
        int[] place = new int[n];
        for (int t = 0; t < n; t++) {
            int other = random.nextInt(t + 1);
            place[t] = place[other];
            place[other] = t;
            text.append(random.nextBoolean() ? "patch;" : "row 1 1;");
        }
        boolean[] told = new boolean[n * n];
        for (int i = 0; i < gives; i++) {
            int a = random.nextInt(n);
            int b = random.nextInt(n);
            boolean turned = !ring && place[a] < place[b];
            int one = turned ? b : a;
            int two = turned ? a : b;
            if (one != two && !told[one * n + two]) {
                told[one * n + two] = true;
                later[one] |= 1 << two;
                text.append("gives ").append(one).append(' ').append(two).append(';');
            }
        }
        return text.toString();
    }

    /** Of each THING all that are AHEAD of it: as far as any walk goes. */
    private static int[] closed(int[] later) {
        int[] ahead = new int[later.length];
        for (int t = 0; t < later.length; t++) {
            ahead[t] = walked(later, later[t]);
        }
        return ahead;
    }

    private static int walked(int[] later, int from) {
        int all = from;
        for (int step = 0; step < later.length; step++) {
            for (int t = 0; t < later.length; t++) {
                all |= (all >> t & 1) != 0 ? later[t] : 0;
            }
        }
        return all;
    }

    private static int ringed(int[] ahead) {
        int bits = 0;
        for (int t = 0; t < ahead.length; t++) {
            bits |= ahead[t] & 1 << t;
        }
        return bits;
    }

    private static void same(String text, BeastFloor x, int[] later, int[] ahead) {
        due.is(text + " rings(0)", x.rings(0), ringed(ahead));
        for (int t = 0; t < later.length; t++) {
            due.is(text + " thing(" + t + ", 2)", x.thing(t, 2), later[t]);
            due.is(text + " thing(" + t + ", 3)", x.thing(t, 3), ahead[t]);
            for (int u = 0; u < later.length; u++) {
                due.is(text + " ahead(" + t + ", " + u + ")", x.ahead(t, u), t == u ? -1 : ahead[u] >> t & 1);
            }
        }
    }

    private static void inRing(String text, BeastFloor x, int[] later) {
        due.is(text + " orders()", x.orders(), -2);
        due.is(text + " rank(0, 0)", x.rank(0, 0), -2);
        due.is(text + " likely(0, 1, 0)", x.likely(0, 1, 0), -2);
        due.is(text + " begins(0)", x.begins(0), -2);
        due.is(text + " order(0, 0)", x.order(0, 0), -2);
        due.is(text + " rings(1)", x.rings(1), leastRing(later));
    }

    /** By the shortest walks between any two, with more and more THINGS to walk through. */
    private static int leastRing(int[] later) {
        int n = later.length;
        int far = 1000;
        int[][] steps = new int[n][n];
        for (int a = 0; a < n; a++) {
            for (int b = 0; b < n; b++) {
                steps[a][b] = (later[a] >> b & 1) != 0 ? 1 : far;
            }
        }
        for (int through = 0; through < n; through++) {
            for (int a = 0; a < n; a++) {
                for (int b = 0; b < n; b++) {
                    steps[a][b] = Math.min(steps[a][b], steps[a][through] + steps[through][b]);
                }
            }
        }
        int least = far;
        for (int t = 0; t < n; t++) {
            least = Math.min(least, steps[t][t]);
        }
        return least;
    }

    /** ORDERS of some THINGS, by which of them may come last. */
    private static long orders(int[] ahead, int some, Map<Integer, Long> known) {
        if (some == 0) {
            return 1;
        }
        Long was = known.get(some);
        if (was != null) {
            return was;
        }
        int inner = 0;
        for (int t = 0; t < ahead.length; t++) {
            inner |= (some >> t & 1) != 0 ? ahead[t] : 0;
        }
        long sum = 0;
        for (int t = 0; t < ahead.length; t++) {
            if ((some & ~inner & 1 << t) != 0) {
                sum += orders(ahead, some & ~(1 << t), known);
            }
        }
        known.put(some, sum);
        return sum;
    }

    private static long orders(int[] ahead) {
        return orders(ahead, (1 << ahead.length) - 1, new HashMap<>());
    }

    /** The sets that may have been laid when a THING is laid, the smallest and the largest. */
    private static void ranks(String text, BeastFloor x, int[] ahead) {
        int n = ahead.length;
        int[] least = new int[n];
        int[] most = new int[n];
        Arrays.fill(least, n);
        Arrays.fill(most, -1);
        for (int set = 0; set < 1 << n; set++) {
            int needed = 0;
            for (int t = 0; t < n; t++) {
                needed |= (set >> t & 1) != 0 ? ahead[t] : 0;
            }
            for (int t = 0; t < n && (needed & ~set) == 0; t++) {
                if ((set >> t & 1) == 0 && (ahead[t] & ~set) == 0) {
                    least[t] = Math.min(least[t], Integer.bitCount(set));
                    most[t] = Math.max(most[t], Integer.bitCount(set));
                }
            }
        }
        int first = 0;
        int last = 0;
        for (int t = 0; t < n; t++) {
            due.is(text + " rank(" + t + ", 0)", x.rank(t, 0), least[t]);
            due.is(text + " rank(" + t + ", 1)", x.rank(t, 1), most[t]);
            first |= least[t] == 0 ? 1 << t : 0;
            last |= most[t] == n - 1 ? 1 << t : 0;
        }
        due.is(text + " begins(0)", x.begins(0), first);
        due.is(text + " begins(1)", x.begins(1), last);
    }

    private static void likelihoods(String text, BeastFloor x, int[] ahead) {
        long all = orders(ahead);
        due.is(text + " orders()", x.orders(), all);
        for (int i = 0; i < 12; i++) {
            int a = random.nextInt(ahead.length);
            int b = (a + 1 + random.nextInt(ahead.length - 1)) % ahead.length;
            int[] more = ahead.clone();
            more[b] |= 1 << a;
            int[] closed = closed(more);
            long those = ringed(closed) != 0 ? 0 : orders(closed);
            long numerator = x.likely(a, b, 0);
            long denominator = x.likely(a, b, 1);
            String call = text + " likely(" + a + ", " + b + ")";
            due.is(call, numerator * all, those * denominator);
            due.is(call + " in lowest terms", BigInteger.valueOf(numerator)
                .gcd(BigInteger.valueOf(denominator)).longValue(), 1);
            due.holds(call + " above 0", denominator > 0);
        }
    }

    /** An ORDER is number k, if k ORDERS begin as it does up to some place and go on with a lower THING there. */
    private static void someOrders(String text, BeastFloor x, int[] ahead) {
        int n = ahead.length;
        long all = orders(ahead);
        Map<Integer, Long> known = new HashMap<>();
        long[] numbers = {0, all - 1, all / 2, (long) (random.nextDouble() * all), (long) (random.nextDouble() * all)};
        for (long k : numbers) {
            long before = 0;
            int laid = 0;
            for (int i = 0; i < n; i++) {
                int t = x.order(k, i);
                due.holds(text + " order(" + k + ", " + i + ") may come there",
                    t >= 0 && t < n && (laid >> t & 1) == 0 && (ahead[t] & ~laid) == 0);
                for (int u = 0; u < t; u++) {
                    if ((laid >> u & 1) == 0 && (ahead[u] & ~laid) == 0) {
                        before += orders(ahead, (1 << n) - 1 & ~laid & ~(1 << u), known);
                    }
                }
                laid |= t >= 0 && t < n ? 1 << t : 0;
            }
            due.is(text + " order(" + k + ")", before, k);
        }
        due.is(text + " order(all, 0)", x.order(all, 0), -1);
    }
}
