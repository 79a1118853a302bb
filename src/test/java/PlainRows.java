import java.math.BigInteger;
import java.util.ArrayList;
import java.util.List;

/**
 * The document once more, word by word and without any cleverness, to hold SenderRows against:
 * ORDER by trying each L with elimination, TWINS by all powers, places by fractions of BigInteger.
 * No code and no way of reckoning is shared with SenderRows.
 */
final class PlainRows {
    static final int NONE = -1, UNKNOWN = -1001, OUTSIDE = -1002, NOT = -1003, FULL = -1004;

    private int p = 31;
    private int set = 0xFFFF;
    private final List<int[]> senders = new ArrayList<>();
    private final int[] gains = new int[24];
    private final Integer[] hand = new Integer[24];
    private final List<int[]> stations = new ArrayList<>();

    PlainRows() {
        java.util.Arrays.fill(gains, 1);
    }

    // ---- the row

    int prime(int q) {
        if (q < 5 || q > 97 || !BigInteger.valueOf(q).isProbablePrime(50)) return OUTSIDE;
        int was = p;
        p = q;
        senders.clear();
        java.util.Arrays.fill(gains, 1);
        java.util.Arrays.fill(hand, null);
        return was;
    }

    int hearers(int s) {
        if (s < 0 || s > 16777215) return OUTSIDE;
        set = s;
        return places(s).size();
    }

    int sender(int z, int a) {
        if (z < 1 || z > p - 1 || a < 1 || a > p - 1) return OUTSIDE;
        for (int[] one : senders) if (one[0] == z) return NOT;
        if (senders.size() == 8) return FULL;
        senders.add(new int[] {z, a});
        return senders.size() - 1;
    }

    int drop() {
        if (senders.isEmpty()) return NOT;
        senders.remove(senders.size() - 1);
        return senders.size();
    }

    int gain(int k, int g) {
        if (k < 0 || k > 23 || g < 1 || g > p - 1) return OUTSIDE;
        int was = gains[k];
        gains[k] = g;
        return was;
    }

    int read(int k, int v) {
        if (k < 0 || k > 23 || v < -1 || v > p - 1) return OUTSIDE;
        hand[k] = v == NONE ? null : Integer.valueOf(v);
        return at(k);
    }

    int heard(int k) {
        if (k < 0 || k > 23) return OUTSIDE;
        return places(set).contains(k) ? at(k) : NOT;
    }

    int count(int what) {
        int[] weights = weights(set);
        int greatest = NONE;
        int some = 0;
        for (int d = 0; d < 24; d++) {
            if (weights[d] > 0) {
                greatest = d;
                some++;
            }
        }
        int byHand = 0;
        for (Integer h : hand) if (h != null) byHand++;
        int holes = 0;
        for (int d = 0; d <= greatest; d++) if (weights[d] == 0) holes++;
        switch (what) {
            case 0: return p;
            case 1: return places(set).size();
            case 2: return senders.size();
            case 3: return byHand;
            case 4: return stations.size();
            case 5: return reach(set);
            case 6: return holes;
            case 7: return twins().size();
            case 8: return greatest;
            case 9: return some;
            default: return OUTSIDE;
        }
    }

    private static List<Integer> places(int s) {
        List<Integer> places = new ArrayList<>();
        for (int k = 0; k < 24; k++) if ((s & (1 << k)) != 0) places.add(k);
        return places;
    }

    private int power(int z, int e) {
        return BigInteger.valueOf(z).modPow(BigInteger.valueOf(e), BigInteger.valueOf(p)).intValue();
    }

    private int by(int r) {
        return BigInteger.valueOf(r).modInverse(BigInteger.valueOf(p)).intValue();
    }

    private int at(int k) {
        if (hand[k] != null) return hand[k];
        int comes = 0;
        for (int[] one : senders) comes += one[1] * power(one[0], k);
        return comes * gains[k] % p;
    }

    // ---- spans

    private int spanRefusal(int s, int n) {
        if (s < 0 || s > 23 || n < 1 || n > 24 - s) return OUTSIDE;
        for (int k = s; k < s + n; k++) if (!places(set).contains(k)) return NOT;
        return 0;
    }

    private int[] reads(int s, int n) {
        int[] r = new int[n];
        for (int t = 0; t < n; t++) r[t] = at(s + t);
        return r;
    }

    /** Some law of the length l, or null if there is none. */
    private int[] lawOf(int[] r, int l) {
        int rows = r.length - l;
        int[][] m = new int[rows][l + 1];
        for (int t = 0; t < rows; t++) {
            for (int i = 1; i <= l; i++) m[t][i - 1] = r[t + l - i];
            m[t][l] = r[t + l];
        }
        return solve(m, l);
    }

    /** A solution of the rows, unknowns that are free being 0; null if there is none. */
    private int[] solve(int[][] m, int unknowns) {
        int[] pivotRow = new int[unknowns];
        java.util.Arrays.fill(pivotRow, -1);
        int used = 0;
        for (int column = 0; column < unknowns; column++) {
            int pick = -1;
            for (int row = used; row < m.length; row++) if (m[row][column] != 0) pick = row;
            if (pick < 0) continue;
            int[] swap = m[pick];
            m[pick] = m[used];
            m[used] = swap;
            int inverse = by(m[used][column]);
            for (int c = 0; c <= unknowns; c++) m[used][c] = m[used][c] * inverse % p;
            for (int row = 0; row < m.length; row++) {
                int factor = m[row][column];
                if (row == used || factor == 0) continue;
                for (int c = 0; c <= unknowns; c++) {
                    m[row][c] = Math.floorMod(m[row][c] - factor * m[used][c], p);
                }
            }
            pivotRow[column] = used++;
        }
        for (int row = used; row < m.length; row++) if (m[row][unknowns] != 0) return null;
        int[] solution = new int[unknowns];
        for (int c = 0; c < unknowns; c++) if (pivotRow[c] >= 0) solution[c] = m[pivotRow[c]][unknowns];
        return solution;
    }

    private int orderOf(int[] r) {
        for (int l = 0; l < r.length; l++) if (lawOf(r, l) != null) return l;
        return r.length;
    }

    int order(int s, int n) {
        int refusal = spanRefusal(s, n);
        return refusal != 0 ? refusal : orderOf(reads(s, n));
    }

    int law(int s, int n, int i) {
        int refusal = spanRefusal(s, n);
        if (refusal == OUTSIDE || i < 0) return OUTSIDE;
        if (refusal != 0) return refusal;
        int[] r = reads(s, n);
        int l = orderOf(r);
        if (i > l) return OUTSIDE;
        boolean one = n >= 2 * l;
        if (i == 0) return one ? 1 : 0;
        return one ? lawOf(r, l)[i - 1] : NOT;
    }

    private List<Integer> slantsOf(int[] r) {
        int l = orderOf(r);
        int[] c = lawOf(r, l);
        List<Integer> slants = new ArrayList<>();
        for (int z = 1; z < p; z++) {
            int sum = 0;
            for (int i = 1; i <= l; i++) sum += c[i - 1] * power(z, l - i);
            if (sum % p == power(z, l)) slants.add(z);
        }
        return slants;
    }

    int slant(int s, int n, int i) {
        int refusal = spanRefusal(s, n);
        if (refusal != 0) return refusal;
        int[] r = reads(s, n);
        if (n < 2 * orderOf(r)) return NOT;
        List<Integer> slants = slantsOf(r);
        if (i == NONE) return slants.size();
        return i >= 0 && i < slants.size() ? slants.get(i) : NONE;
    }

    int strength(int s, int n, int i) {
        int refusal = spanRefusal(s, n);
        if (refusal != 0) return refusal;
        int[] r = reads(s, n);
        int l = orderOf(r);
        if (n < 2 * l) return NOT;
        List<Integer> slants = slantsOf(r);
        if (i < 0 || i >= slants.size() || slants.size() != l) return NONE;
        int[][] m = new int[n][l + 1];
        for (int t = 0; t < n; t++) {
            for (int j = 0; j < l; j++) m[t][j] = power(slants.get(j), s + t);
            m[t][l] = r[t];
        }
        return solve(m, l)[i];
    }

    int mended(int s, int n, int k, int what) {
        int refusal = spanRefusal(s, n);
        if (refusal == OUTSIDE || k < s || k > s + n - 1 || what < 0 || what > 2) return OUTSIDE;
        if (refusal != 0) return refusal;
        int[] orders = new int[p];
        int least = n;
        for (int rest = 0; rest < p; rest++) {
            int[] r = reads(s, n);
            r[k - s] = rest;
            orders[rest] = orderOf(r);
            least = Math.min(least, orders[rest]);
        }
        if (what == 0) return least;
        int many = 0;
        int first = -1;
        for (int rest = p - 1; rest >= 0; rest--) {
            if (orders[rest] == least) {
                many++;
                first = rest;
            }
        }
        return what == 1 ? many : first;
    }

    int tune(int i) {
        if (i < 0 || i >= senders.size()) return UNKNOWN;
        for (int k : places(set)) if (at(k) == 0) return NOT;
        int changed = 0;
        for (int k : places(set)) {
            int wave = senders.get(i)[1] * power(senders.get(i)[0], k) % p;
            int g = at(k) * by(wave) % p;
            if (g != gains[k]) changed++;
            gains[k] = g;
        }
        return changed;
    }

    // ---- thin rows

    private List<int[]> twins() {
        List<int[]> twins = new ArrayList<>();
        List<Integer> places = places(set);
        for (int z = 1; z < p; z++) {
            for (int w = z + 1; w < p; w++) {
                boolean alike = true;
                for (int k : places) {
                    int e = k - places.get(0);
                    if (power(z, e) != power(w, e)) {
                        alike = false;
                        break;
                    }
                }
                if (alike) twins.add(new int[] {z, w});
            }
        }
        return twins;
    }

    int twin(int i, int what) {
        if (what != 0 && what != 1) return OUTSIDE;
        List<int[]> twins = twins();
        return i >= 0 && i < twins.size() ? twins.get(i)[what] : NONE;
    }

    private static int[] weights(int s) {
        int[] weights = new int[24];
        for (int a : places(s)) for (int b : places(s)) if (a >= b) weights[a - b]++;
        return weights;
    }

    private static int reach(int s) {
        int[] weights = weights(s);
        int r = 0;
        while (r < 24 && weights[r] > 0) r++;
        return r - 1;
    }

    int weight(int d) {
        return d < 0 || d > 23 ? OUTSIDE : weights(set)[d];
    }

    int best(int what) {
        if (what != 0 && what != 1) return OUTSIDE;
        int place = NONE;
        int far = NONE;
        for (int k = 23; k >= 0; k--) {
            if (places(set).contains(k)) continue;
            int r = reach(set | (1 << k));
            if (place == NONE || r >= far) {
                place = k;
                far = r;
            }
        }
        return what == 0 ? place : far;
    }

    // ---- stations

    /** A fraction in least terms, the lower number above 0. */
    private static final class Fraction {
        final BigInteger up;
        final BigInteger low;

        Fraction(BigInteger up, BigInteger low) {
            BigInteger g = up.gcd(low);
            if (low.signum() < 0) g = g.negate();
            this.up = up.divide(g);
            this.low = low.divide(g);
        }

        static Fraction of(long n) {
            return new Fraction(BigInteger.valueOf(n), BigInteger.ONE);
        }

        Fraction plus(Fraction o) {
            return new Fraction(up.multiply(o.low).add(o.up.multiply(low)), low.multiply(o.low));
        }

        Fraction times(Fraction o) {
            return new Fraction(up.multiply(o.up), low.multiply(o.low));
        }

        Fraction times(long n) {
            return times(of(n));
        }

        Fraction less(Fraction o) {
            return plus(o.times(-1));
        }

        Fraction by(Fraction o) {
            return new Fraction(up.multiply(o.low), low.multiply(o.up));
        }

        int sign() {
            return up.signum();
        }
    }

    private static boolean far(int c) {
        return c < -100 || c > 100;
    }

    int station(int x, int y, int u, int v) {
        if (far(x) || far(y) || far(u) || far(v) || u == 0 && v == 0) return OUTSIDE;
        if (stations.size() == 6) return FULL;
        stations.add(new int[] {x, y, u, v});
        return stations.size() - 1;
    }

    private boolean there(int i) {
        return i >= 0 && i < stations.size();
    }

    int look(int i, int u, int v) {
        if (!there(i)) return UNKNOWN;
        if (far(u) || far(v) || u == 0 && v == 0) return OUTSIDE;
        stations.get(i)[2] = u;
        stations.get(i)[3] = v;
        return 1;
    }

    /** The place on both lines by Cramer's rule on their equations, if it lies on both RAYS. */
    private Fraction[] place(int i, int j) {
        int[] a = stations.get(i);
        int[] b = stations.get(j);
        long determinant = (long) a[2] * b[3] - (long) b[2] * a[3];
        if (i == j || determinant == 0) return null;
        // v x - u y is the same for all places of a line
        long ca = (long) a[3] * a[0] - (long) a[2] * a[1];
        long cb = (long) b[3] * b[0] - (long) b[2] * b[1];
        Fraction d = Fraction.of((long) a[3] * -b[2] + (long) a[2] * b[3]);
        Fraction x = Fraction.of(ca * -b[2] + cb * a[2]).by(d);
        Fraction y = Fraction.of(a[3] * cb - b[3] * ca).by(d);
        Fraction[] place = {x, y};
        return ahead(a, place) && ahead(b, place) ? place : null;
    }

    private static boolean ahead(int[] s, Fraction[] place) {
        Fraction dx = place[0].less(Fraction.of(s[0]));
        Fraction dy = place[1].less(Fraction.of(s[1]));
        return dx.times(s[2]).plus(dy.times(s[3])).sign() >= 0;
    }

    private static boolean within(int[] s, Fraction[] place, int width) {
        Fraction dx = place[0].less(Fraction.of(s[0]));
        Fraction dy = place[1].less(Fraction.of(s[1]));
        Fraction dot = dx.times(s[2]).plus(dy.times(s[3]));
        // the square of the way there less the square of what lies along the line
        Fraction whole = dx.times(dx).plus(dy.times(dy));
        Fraction along = dot.times(dot).by(Fraction.of((long) s[2] * s[2] + (long) s[3] * s[3]));
        return whole.less(along).less(Fraction.of((long) width * width)).sign() <= 0;
    }

    long crossing(int i, int j, int what) {
        if (!there(i) || !there(j)) return UNKNOWN;
        if (what < 0 || what > 3) return OUTSIDE;
        Fraction[] place = place(i, j);
        if (place == null) return NOT;
        Fraction f = place[what / 2];
        return (what % 2 == 0 ? f.up : f.low).longValueExact();
    }

    int borne(int i, int j, int width) {
        if (!there(i) || !there(j)) return UNKNOWN;
        if (width < 0 || width > 200) return OUTSIDE;
        Fraction[] place = place(i, j);
        if (place == null) return NOT;
        int bear = 0;
        for (int m = 0; m < stations.size(); m++) {
            if (m == i || m == j) continue;
            if (ahead(stations.get(m), place) && within(stations.get(m), place, width)) bear++;
        }
        return bear;
    }

    int most(int width, int what) {
        if (width < 0 || width > 200 || what < 0 || what > 2) return OUTSIDE;
        int[] best = {NONE, NONE, NONE};
        for (int i = 0; i < stations.size(); i++) {
            for (int j = i + 1; j < stations.size(); j++) {
                int bear = borne(i, j, width);
                if (bear >= 0 && bear > best[2]) best = new int[] {i, j, bear};
            }
        }
        return best[what];
    }
}
