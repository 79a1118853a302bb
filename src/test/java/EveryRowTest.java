import java.util.ArrayList;
import java.util.List;

/**
 * Every small row, set and pair of STATIONS, by the words of the document alone: laws, STRENGTHS,
 * RESTS, PLACES and steps along a RAY are not reckoned, all that there are are tried.
 */
public final class EveryRowTest {
    private static final int NONE = Bounds.NONE;
    private static final int NOT = Bounds.NOT;
    private static final int OUTSIDE = Bounds.OUTSIDE;
    private static final int ALL = Bounds.ALL;

    private static final Due due = new Due();

    public static void main(String[] args) {
        Cases.run(EveryRowTest.class, due);
    }

    // ---- spans: every row of READS

    /** All rows of n RESTS of p, with all laws of the least length of each. */
    private static final class Rows {
        final int p;
        final int n;
        final int many;
        final int[] orders;

        Rows(int p, int n) {
            this.p = p;
            this.n = n;
            many = power(p, n);
            orders = new int[many];
            for (int number = 0; number < many; number++) {
                int[] reads = digits(number, n);
                while (orders[number] < n && laws(reads, orders[number]).isEmpty()) orders[number]++;
            }
        }

        int[] digits(int number, int length) {
            int[] digits = new int[length];
            for (int t = 0; t < length; t++) {
                digits[t] = number % p;
                number /= p;
            }
            return digits;
        }

        /** All c1 .. cL by which each READ from the L-th on is what it is. */
        List<int[]> laws(int[] reads, int length) {
            List<int[]> laws = new ArrayList<>();
            for (int number = 0; number < power(p, length); number++) {
                int[] c = digits(number, length);
                boolean holds = true;
                for (int t = length; t < n && holds; t++) {
                    int sum = 0;
                    for (int i = 1; i <= length; i++) sum += c[i - 1] * reads[t - i];
                    holds = sum % p == reads[t];
                }
                if (holds) laws.add(c);
            }
            return laws;
        }

        List<Integer> slants(int[] c) {
            List<Integer> slants = new ArrayList<>();
            for (int z = 1; z < p; z++) {
                int sum = 0;
                for (int i = 1; i <= c.length; i++) sum += c[i - 1] * power(z, c.length - i);
                if (power(z, c.length) % p == sum % p) slants.add(z);
            }
            return slants;
        }

        /** All STRENGTHS by which the SLANTS make the READS from PLACE s on. */
        List<int[]> strengths(int[] reads, List<Integer> slants, int s) {
            List<int[]> strengths = new ArrayList<>();
            for (int number = 0; number < power(p, slants.size()); number++) {
                int[] a = digits(number, slants.size());
                boolean makes = true;
                for (int t = 0; t < n && makes; t++) {
                    int sum = 0;
                    for (int i = 0; i < a.length; i++) sum += a[i] * rest(slants.get(i), s + t);
                    makes = sum % p == reads[t];
                }
                if (makes) strengths.add(a);
            }
            return strengths;
        }

        private int rest(int z, int exponent) {
            int product = 1;
            for (int step = 0; step < exponent; step++) product = product * z % p;
            return product;
        }

        /** An object with these READS from PLACE s on. */
        SenderRows object(int[] reads, int s) {
            SenderRows x = new SenderRows();
            x.prime(p);
            x.hearers((1 << n) - 1 << s);
            for (int t = 0; t < n; t++) x.read(s + t, reads[t]);
            return x;
        }
    }

    private static int power(int base, int exponent) {
        int product = 1;
        for (int step = 0; step < exponent; step++) product *= base;
        return product;
    }

    private static final Rows[] ROWS = {new Rows(5, 1), new Rows(5, 2), new Rows(5, 3), new Rows(5, 4),
        new Rows(5, 5), new Rows(7, 1), new Rows(7, 2), new Rows(7, 3), new Rows(7, 4)};

    /** What is to be seen of one row of READS, laid down from PLACE s on. */
    private interface Look {
        void at(Rows rows, int number, int s);
    }

    private static void everyRow(Look look) {
        for (Rows rows : ROWS) {
            for (int number = 0; number < rows.many; number++) look.at(rows, number, number % (25 - rows.n));
        }
    }

    private static String told(Rows rows, int number, String what) {
        return what + ", row " + java.util.Arrays.toString(rows.digits(number, rows.n)) + " of " + rows.p;
    }

    static void promise10_order_everyRow() {
        everyRow((rows, number, s) -> {
            SenderRows x = rows.object(rows.digits(number, rows.n), s);
            due.is(told(rows, number, "order"), x.order(s, rows.n), rows.orders[number]);
        });
    }

    static void promise11_law_everyRow() {
        everyRow((rows, number, s) -> {
            int[] reads = rows.digits(number, rows.n);
            int order = rows.orders[number];
            SenderRows x = rows.object(reads, s);
            boolean one = rows.n >= 2 * order;
            List<int[]> laws = rows.laws(reads, order);
            due.holds(told(rows, number, "a law that is ONE has no other"), !one || laws.size() == 1);
            due.is(told(rows, number, "one"), x.law(s, rows.n, 0), one ? 1 : 0);
            for (int i = 1; i <= order; i++) {
                due.is(told(rows, number, "c" + i), x.law(s, rows.n, i), one ? laws.get(0)[i - 1] : NOT);
            }
            due.is(told(rows, number, "beyond"), x.law(s, rows.n, order + 1), OUTSIDE);
        });
    }

    static void promise12_slant_everyRow() {
        everyRow((rows, number, s) -> {
            int[] reads = rows.digits(number, rows.n);
            int order = rows.orders[number];
            SenderRows x = rows.object(reads, s);
            if (rows.n < 2 * order) {
                due.is(told(rows, number, "how many, not one"), x.slant(s, rows.n, NONE), NOT);
                due.is(told(rows, number, "the first, not one"), x.slant(s, rows.n, 0), NOT);
                return;
            }
            List<Integer> slants = rows.slants(rows.laws(reads, order).get(0));
            due.is(told(rows, number, "how many"), x.slant(s, rows.n, NONE), slants.size());
            for (int i = 0; i <= slants.size(); i++) {
                due.is(told(rows, number, "slant " + i), x.slant(s, rows.n, i), i < slants.size() ? slants.get(i) : NONE);
            }
        });
    }

    static void promise13_strength_everyRow() {
        everyRow((rows, number, s) -> {
            int[] reads = rows.digits(number, rows.n);
            int order = rows.orders[number];
            SenderRows x = rows.object(reads, s);
            if (rows.n < 2 * order) {
                due.is(told(rows, number, "not one"), x.strength(s, rows.n, 0), NOT);
                return;
            }
            List<Integer> slants = rows.slants(rows.laws(reads, order).get(0));
            boolean full = slants.size() == order;
            List<int[]> strengths = rows.strengths(reads, slants, s);
            due.holds(told(rows, number, "they are the only ones"), !full || strengths.size() == 1);
            for (int i = 0; i <= slants.size(); i++) {
                int want = full && i < slants.size() ? strengths.get(0)[i] : NONE;
                due.is(told(rows, number, "strength " + i), x.strength(s, rows.n, i), want);
            }
        });
    }

    static void promise14_mended_everyRow() {
        everyRow((rows, number, s) -> {
            SenderRows x = rows.object(rows.digits(number, rows.n), s);
            for (int t = 0; t < rows.n; t++) {
                int unit = power(rows.p, t);
                int without = number - number / unit % rows.p * unit;
                int least = rows.n + 1;
                int many = 0;
                int first = NONE;
                for (int rest = rows.p - 1; rest >= 0; rest--) {
                    int order = rows.orders[without + rest * unit];
                    many = order < least ? 1 : order == least ? many + 1 : many;
                    first = order <= least ? rest : first;
                    least = Math.min(least, order);
                }
                due.is(told(rows, number, "least order at " + t), x.mended(s, rows.n, s + t, 0), least);
                due.is(told(rows, number, "how many at " + t), x.mended(s, rows.n, s + t, 1), many);
                due.is(told(rows, number, "the least at " + t), x.mended(s, rows.n, s + t, 2), first);
            }
        });
    }

    // ---- thin rows: every set of twelve PLACES, at both ends of THE ROW

    private interface SetLook {
        void at(SenderRows x, int set);
    }

    private static void everySet(int p, SetLook look) {
        for (int twelve = 0; twelve < 1 << 12; twelve++) {
            for (int set : new int[] {twelve, twelve << 12}) {
                SenderRows x = new SenderRows();
                x.prime(p);
                x.hearers(set);
                look.at(x, set);
            }
        }
    }

    private static boolean has(int set, int k) {
        return k >= 0 && k < 24 && (set & 1 << k) != 0;
    }

    private static int weight(int set, int d) {
        int pairs = 0;
        for (int k = 0; k < 24; k++) if (has(set, k) && has(set, k + d)) pairs++;
        return pairs;
    }

    private static int reach(int set) {
        int r = NONE;
        for (int d = 0; d < 24 && weight(set, d) > 0; d++) r = d;
        return r;
    }

    static void promise09_count_everySet() {
        everySet(31, (x, set) -> {
            int greatest = NONE;
            int present = 0;
            for (int d = 0; d < 24; d++) {
                if (weight(set, d) == 0) continue;
                greatest = d;
                present++;
            }
            int holes = 0;
            for (int d = 0; d <= greatest; d++) if (weight(set, d) == 0) holes++;
            due.is("reach of " + set, x.count(5), reach(set));
            due.is("holes of " + set, x.count(6), holes);
            due.is("greatest of " + set, x.count(8), greatest);
            due.is("differences of " + set, x.count(9), present);
        });
    }

    /** Of 13, whose SLANTS have the orders 1, 2, 3, 4, 6 and 12. */
    static void promise16_twin_everySet() {
        everySet(13, (x, set) -> {
            int twins = 0;
            for (int z = 1; z < 13; z++) {
                for (int w = z + 1; w < 13; w++) {
                    if (!alike(set, z, w)) continue;
                    due.is("lesser " + twins + " of " + set, x.twin(twins, 0), z);
                    due.is("greater " + twins + " of " + set, x.twin(twins, 1), w);
                    twins++;
                }
            }
            due.is("no more of " + set, x.twin(twins, 0), NONE);
            due.is("how many of " + set, x.count(7), twins);
        });
    }

    private static boolean alike(int set, int z, int w) {
        int ofZ = 1;
        int ofW = 1;
        boolean begun = false;
        for (int k = 0; k < 24; k++) {
            if (begun) {
                ofZ = ofZ * z % 13;
                ofW = ofW * w % 13;
            }
            begun = begun || has(set, k);
            if (has(set, k) && ofZ != ofW) return false;
        }
        return true;
    }

    static void promise17_weight_everySet() {
        everySet(31, (x, set) -> {
            for (int d = 0; d < 24; d++) due.is("weight " + d + " of " + set, x.weight(d), weight(set, d));
        });
    }

    static void promise18_best_everySet() {
        everySet(31, (x, set) -> {
            int place = NONE;
            int far = NONE;
            for (int k = 0; k < 24; k++) {
                if (has(set, k) || reach(set | 1 << k) <= far) continue;
                place = k;
                far = reach(set | 1 << k);
            }
            due.is("place for " + set, x.best(0), place);
            due.is("reach for " + set, x.best(1), far);
        });
        SenderRows all = new SenderRows();
        all.hearers(ALL);
        due.is("all are hearers", all.best(0), NONE);
    }

    // ---- stations: every pair that stands near and looks along one of the eight nearest ways

    private static final int[][] WAYS = {{1, 0}, {1, 1}, {0, 1}, {-1, 1}, {-1, 0}, {-1, -1}, {0, -1}, {1, -1}};
    private static final int NEAR = 2;
    /** In halves of a way: places of CROSSINGS are halves, and from none here is one 12 ways off. */
    private static final int STEPS = 24;

    /** The place on both RAYS in halves, or null; a STATION is x, y, u, v. */
    private static int[] cross(int[] one, int[] other) {
        if (one[2] * other[3] - other[2] * one[3] == 0) return null;
        for (int t = 0; t <= STEPS; t++) {
            for (int w = 0; w <= STEPS; w++) {
                int x = 2 * one[0] + t * one[2];
                int y = 2 * one[1] + t * one[3];
                if (x == 2 * other[0] + w * other[2] && y == 2 * other[1] + w * other[3]) return new int[] {x, y};
            }
        }
        return null;
    }

    /** The place is told in halves; the foot of it upon the line falls on quarters. */
    private static boolean bears(int[] s, int[] place, int width) {
        int dx = 2 * place[0] - 4 * s[0];
        int dy = 2 * place[1] - 4 * s[1];
        if (s[2] * dx + s[3] * dy < 0) return false;
        int nearest = Integer.MAX_VALUE;
        for (int t = -16 * STEPS; t <= 16 * STEPS; t++) {
            int ax = dx - t * s[2];
            int ay = dy - t * s[3];
            nearest = Math.min(nearest, ax * ax + ay * ay);
        }
        return nearest <= 16 * width * width;
    }

    private interface PairLook {
        void at(SenderRows x, int[] one, int[] other);
    }

    /** The first one at (1, -1), the other everywhere near (0, 0). */
    private static void everyPair(PairLook look) {
        for (int[] way : WAYS) {
            for (int[] otherWay : WAYS) {
                for (int at = 0; at < 25; at++) {
                    int[] one = {1, -1, way[0], way[1]};
                    int[] other = {at % 5 - NEAR, at / 5 - NEAR, otherWay[0], otherWay[1]};
                    look.at(Bounds.withStations(one, other), one, other);
                }
            }
        }
    }

    private static String told(String what, int[]... stations) {
        return what + " of " + java.util.Arrays.deepToString(stations);
    }

    static void promise21_crossing_everyPair() {
        everyPair((x, one, other) -> {
            int[] place = cross(one, other);
            for (int what = 0; what < 4; what++) {
                long want = NOT;
                if (place != null) {
                    int halves = place[what / 2];
                    want = what % 2 == 0 ? halves % 2 == 0 ? halves / 2 : halves : halves % 2 == 0 ? 1 : 2;
                }
                due.is(told("part " + what, one, other), x.crossing(0, 1, what), want);
                due.is(told("part " + what + ", turned round,", one, other), x.crossing(1, 0, what), want);
            }
        });
    }

    private static final int[][] THIRDS = {{0, 0, 1, 0}, {1, -1, 0, 1}, {-2, 2, 1, -1}, {3, 0, -1, -1}, {0, 3, -1, 0}, {-1, -2, 1, 1}};

    static void promise22_borne_everyPair() {
        everyPair((x, one, other) -> {
            int[] place = cross(one, other);
            for (int[] third : THIRDS) {
                SenderRows y = Bounds.withStations(one, other, third);
                for (int width = 0; width < 5; width++) {
                    int want = place == null ? NOT : bears(third, place, width) ? 1 : 0;
                    due.is(told("borne by " + width, one, other, third), y.borne(0, 1, width), want);
                }
            }
        });
    }

    static void promise23_most_everyPair() {
        everyPair((x, one, other) -> {
            for (int[] third : THIRDS) {
                int[][] all = {one, other, third};
                SenderRows y = Bounds.withStations(all);
                for (int width = 0; width < 3; width++) {
                    int[] want = most(all, width);
                    for (int what = 0; what < 3; what++) {
                        due.is(told("most " + what + " by " + width, all), y.most(width, what), want[what]);
                    }
                }
            }
        });
    }

    /** Of three STATIONS: i, j and by how many; the one that is left is the only other. */
    private static int[] most(int[][] all, int width) {
        int[] most = {NONE, NONE, NONE};
        for (int i = 0; i < 3; i++) {
            for (int j = i + 1; j < 3; j++) {
                int[] place = cross(all[i], all[j]);
                if (place == null) continue;
                int many = bears(all[3 - i - j], place, width) ? 1 : 0;
                if (many > most[2]) most = new int[] {i, j, many};
            }
        }
        return most;
    }
}
