/**
 * Hearers on a row, the waves of several senders told by rests of a prime, and stations whose
 * bearings are crossed. The words used here (SPAN, ORDER, TWINS ..) are those of the document.
 *
 * This class looks at every argument in the order of the refusals; the classes inside it are only
 * asked what has passed.
 */
public final class SenderRows {
    public static final int NONE = -1, UNKNOWN = -1001, OUTSIDE = -1002, NOT = -1003, FULL = -1004;

    private static final int PLACES = 24;
    private static final int SETS = 1 << PLACES;
    private static final int FIRST_HEARERS = 0xFFFF;
    private static final int LEAST_PRIME = 5;
    private static final int GREATEST_PRIME = 97;
    private static final int FIRST_PRIME = 31;
    private static final int SENDERS = 8;
    private static final int STATIONS = 6;
    private static final int FAR = 100;
    private static final int WIDEST = 200;

    /** Far above the steps that Euclid's way needs for any two numbers of type long. */
    private static final int DIVISOR_STEPS = 200;

    private final Rests rests;
    private final Row row;
    private final Law found;
    private final Stations stations;

    public SenderRows() {
        rests = new Rests();
        row = new Row(rests);
        found = new Law(rests);
        stations = new Stations();
    }

    // ---- the row

    public int prime(int p) {
        if (!Rests.canBePrime(p)) {
            return OUTSIDE;
        }
        int before = rests.modulus;
        rests.become(p);
        row.clear();
        return before;
    }

    public int hearers(int set) {
        if (set < 0 || set >= SETS) {
            return OUTSIDE;
        }
        row.set = set;
        return Integer.bitCount(set);
    }

    public int sender(int z, int a) {
        if (!rests.isFactor(z) || !rests.isFactor(a)) {
            return OUTSIDE;
        }
        if (row.hasSlant(z)) {
            return NOT;
        }
        if (row.senders >= SENDERS) {
            return FULL;
        }
        return row.addSender(z, a);
    }

    public int drop() {
        return row.senders < 1 ? NOT : row.dropSender();
    }

    public int gain(int k, int g) {
        if (!isPlace(k) || !rests.isFactor(g)) {
            return OUTSIDE;
        }
        int before = row.gains[k];
        row.gains[k] = g;
        return before;
    }

    public int read(int k, int v) {
        if (!isPlace(k) || v < NONE || v >= rests.modulus) {
            return OUTSIDE;
        }
        row.byHand[k] = v;
        return row.readAt(k);
    }

    public int heard(int k) {
        if (!isPlace(k)) {
            return OUTSIDE;
        }
        return row.hasHearer(k) ? row.readAt(k) : NOT;
    }

    public int count(int what) {
        switch (what) {
            case 0:
                return rests.modulus;
            case 1:
                return Integer.bitCount(row.set);
            case 2:
                return row.senders;
            case 3:
                return row.readsByHand();
            case 4:
                return stations.size;
            case 5:
                return Differences.reach(row.set);
            case 6:
                return Differences.holes(row.set);
            case 7:
                return row.twinsInAll();
            case 8:
                return Differences.greatest(row.set);
            case 9:
                return Differences.present(row.set);
            default:
                return OUTSIDE;
        }
    }

    // ---- spans

    public int order(int s, int n) {
        int refusal = spanRefusal(s, n);
        if (refusal != 0) {
            return refusal;
        }
        findLaw(s, n);
        return found.length;
    }

    public int law(int s, int n, int i) {
        if (i < 0) {
            return OUTSIDE;
        }
        int refusal = spanRefusal(s, n);
        if (refusal != 0) {
            return refusal;
        }
        findLaw(s, n);
        if (i > found.length) {
            return OUTSIDE;
        }
        if (i == 0) {
            return found.isOne() ? 1 : 0;
        }
        return found.isOne() ? found.coefficient(i) : NOT;
    }

    public int slant(int s, int n, int i) {
        int refusal = findSlants(s, n);
        if (refusal != 0) {
            return refusal;
        }
        return i == NONE ? found.slantsInAll : found.slantAt(i);
    }

    public int strength(int s, int n, int i) {
        int refusal = findSlants(s, n);
        if (refusal != 0) {
            return refusal;
        }
        int z = found.slantAt(i);
        return z != NONE && found.isFull() ? found.strengthOf(z, s) : NONE;
    }

    public int mended(int s, int n, int k, int what) {
        if (!isSpan(s, n) || k < s || k >= s + n || what < 0 || what > 2) {
            return OUTSIDE;
        }
        if (!row.hasHearers(s, n)) {
            return NOT;
        }
        found.take(row, s, n);
        return found.mend(k - s, what);
    }

    public int tune(int i) {
        if (i < 0 || i >= row.senders) {
            return UNKNOWN;
        }
        return row.hasSilentHearer() ? NOT : row.tuneTo(i);
    }

    // ---- thin rows

    public int twin(int i, int what) {
        if (what < 0 || what > 1) {
            return OUTSIDE;
        }
        return row.twinAt(i, what);
    }

    public int weight(int d) {
        return isPlace(d) ? Differences.pairs(row.set, d) : OUTSIDE;
    }

    public int best(int what) {
        if (what < 0 || what > 1) {
            return OUTSIDE;
        }
        int k = Differences.bestPlace(row.set);
        if (k == NONE || what == 0) {
            return k;
        }
        return Differences.reach(row.set | 1 << k);
    }

    // ---- stations

    public int station(int x, int y, int u, int v) {
        if (!isNear(x) || !isNear(y) || !isWay(u, v)) {
            return OUTSIDE;
        }
        return stations.size >= STATIONS ? FULL : stations.add(x, y, u, v);
    }

    public int look(int i, int u, int v) {
        if (!stations.has(i)) {
            return UNKNOWN;
        }
        if (!isWay(u, v)) {
            return OUTSIDE;
        }
        stations.turn(i, u, v);
        return 1;
    }

    public long crossing(int i, int j, int what) {
        if (!stations.has(i) || !stations.has(j)) {
            return UNKNOWN;
        }
        if (what < 0 || what > 3) {
            return OUTSIDE;
        }
        return stations.cross(i, j) ? stations.partOfCross(what) : NOT;
    }

    public int borne(int i, int j, int width) {
        if (!stations.has(i) || !stations.has(j)) {
            return UNKNOWN;
        }
        if (width < 0 || width > WIDEST) {
            return OUTSIDE;
        }
        return stations.cross(i, j) ? stations.bearers(i, j, width) : NOT;
    }

    public int most(int width, int what) {
        if (width < 0 || width > WIDEST || what < 0 || what > 2) {
            return OUTSIDE;
        }
        return stations.mostBorne(width, what);
    }

    // ---- bounds, and what several calls share

    private static boolean isPlace(int k) {
        return k >= 0 && k < PLACES;
    }

    private static boolean isSpan(int s, int n) {
        return isPlace(s) && n >= 1 && n <= PLACES - s;
    }

    private static boolean isNear(int coordinate) {
        return coordinate >= -FAR && coordinate <= FAR;
    }

    private static boolean isWay(int u, int v) {
        return isNear(u) && isNear(v) && (u != 0 || v != 0);
    }

    /** OUTSIDE or NOT; 0 for a SPAN. */
    private int spanRefusal(int s, int n) {
        if (!isSpan(s, n)) {
            return OUTSIDE;
        }
        return row.hasHearers(s, n) ? 0 : NOT;
    }

    private void findLaw(int s, int n) {
        found.take(row, s, n);
        found.find(n);
    }

    /** Finds THE LAW of a SPAN and its SLANTS: 0 if it is ONE, else the refusal. */
    private int findSlants(int s, int n) {
        int refusal = spanRefusal(s, n);
        if (refusal != 0) {
            return refusal;
        }
        findLaw(s, n);
        if (!found.isOne()) {
            return NOT;
        }
        found.findSlants();
        return 0;
    }

    /** The greatest common divisor of two numbers not below 0; 0 if both are 0. */
    private static long commonDivisor(long a, long b) {
        for (int step = 0; step < DIVISOR_STEPS && b != 0; step++) {
            long left = a % b;
            a = b;
            b = left;
        }
        return a;
    }

    /** Sums and products of RESTS. */
    private static final class Rests {
        int modulus;
        private final int[] inverses = new int[GREATEST_PRIME];

        Rests() {
            become(FIRST_PRIME);
        }

        static boolean canBePrime(int p) {
            if (p < LEAST_PRIME || p > GREATEST_PRIME) {
                return false;
            }
            for (int d = 2; d * d <= p; d++) {
                if (p % d == 0) {
                    return false;
                }
            }
            return true;
        }

        void become(int p) {
            modulus = p;
            inverses[1] = 1;
            // p is (p / r) times r and a lesser rest, whose inverse stands already
            for (int r = 2; r < p && r < GREATEST_PRIME; r++) {
                inverses[r] = of((p - p / r) * inverses[p % r]);
            }
        }

        /** The REST of a number not below 0. */
        int of(int number) {
            return modulus < LEAST_PRIME ? 0 : number % modulus;
        }

        /** Whether a number can be a SLANT, a STRENGTH, a GAIN. */
        boolean isFactor(int number) {
            return number >= 1 && number < modulus;
        }

        /** What times r is 1; 0 for 0, which has none. */
        int inverse(int r) {
            return isFactor(r) ? inverses[r] : 0;
        }

        int power(int r, int exponent) {
            int product = 1;
            for (int step = 0; step < exponent; step++) {
                product = of(product * r);
            }
            return product;
        }
    }

    /** THE HEARERS with their GAINS and READS, and the SENDERS. */
    private static final class Row {
        private final Rests rests;
        int set = FIRST_HEARERS;
        int senders;
        private final int[] slants = new int[SENDERS];
        private final int[] strengths = new int[SENDERS];
        final int[] gains = new int[PLACES];
        final int[] byHand = new int[PLACES];
        /** The sum of all waves at each PLACE, kept so that a READ needs no powers. */
        private final int[] coming = new int[PLACES];
        private final int[] images = new int[GREATEST_PRIME];

        Row(Rests rests) {
            this.rests = rests;
            clear();
        }

        /** All but THE HEARERS as at first. */
        void clear() {
            senders = 0;
            for (int k = 0; k < PLACES; k++) {
                gains[k] = 1;
                byHand[k] = NONE;
                coming[k] = 0;
            }
        }

        boolean hasHearer(int k) {
            return (set >> k & 1) != 0;
        }

        boolean hasHearers(int s, int n) {
            int span = (1 << n) - 1 << s;
            return (set & span) == span;
        }

        int readAt(int k) {
            return byHand[k] != NONE ? byHand[k] : rests.of(coming[k] * gains[k]);
        }

        int readsByHand() {
            int reads = 0;
            for (int k = 0; k < PLACES; k++) {
                if (byHand[k] != NONE) {
                    reads++;
                }
            }
            return reads;
        }

        boolean hasSlant(int z) {
            for (int i = 0; i < senders && i < SENDERS; i++) {
                if (slants[i] == z) {
                    return true;
                }
            }
            return false;
        }

        int addSender(int z, int a) {
            int number = senders;
            slants[number] = z;
            strengths[number] = a;
            addWave(z, a);
            senders++;
            return number;
        }

        int dropSender() {
            senders--;
            addWave(slants[senders], rests.modulus - strengths[senders]);
            return senders;
        }

        private void addWave(int z, int a) {
            int wave = a;
            for (int k = 0; k < PLACES; k++) {
                coming[k] = rests.of(coming[k] + wave);
                wave = rests.of(wave * z);
            }
        }

        /** Whether some READ of THE HEARERS is 0. */
        boolean hasSilentHearer() {
            for (int k = 0; k < PLACES; k++) {
                if (hasHearer(k) && readAt(k) == 0) {
                    return true;
                }
            }
            return false;
        }

        int tuneTo(int sender) {
            int changed = 0;
            int wave = strengths[sender];
            for (int k = 0; k < PLACES; k++) {
                if (hasHearer(k)) {
                    int due = rests.of(readAt(k) * rests.inverse(wave));
                    if (due != gains[k]) {
                        gains[k] = due;
                        changed++;
                    }
                }
                wave = rests.of(wave * slants[sender]);
            }
            return changed;
        }

        int twinsInAll() {
            makeImages();
            int twins = 0;
            for (int z = 1; z < rests.modulus && z < GREATEST_PRIME; z++) {
                for (int w = z + 1; w < rests.modulus && w < GREATEST_PRIME; w++) {
                    if (images[z] == images[w]) {
                        twins++;
                    }
                }
            }
            return twins;
        }

        int twinAt(int i, int what) {
            makeImages();
            int ahead = 0;
            for (int z = 1; z < rests.modulus && z < GREATEST_PRIME; z++) {
                for (int w = z + 1; w < rests.modulus && w < GREATEST_PRIME; w++) {
                    if (images[z] == images[w]) {
                        if (ahead == i) {
                            return what == 0 ? z : w;
                        }
                        ahead++;
                    }
                }
            }
            return NONE;
        }

        /**
         * Two SLANTS are TWINS if their quotient to each distance is 1; so it is then to the
         * common divisor of the distances, and one power of each SLANT tells.
         */
        private void makeImages() {
            int spacing = spacing();
            for (int z = 1; z < rests.modulus && z < GREATEST_PRIME; z++) {
                images[z] = rests.power(z, spacing);
            }
        }

        /** The common divisor of all DIFFERENCES; 0 with fewer than two HEARERS. */
        private int spacing() {
            long spacing = 0;
            int last = NONE;
            for (int k = 0; k < PLACES; k++) {
                if (hasHearer(k)) {
                    if (last != NONE) {
                        spacing = commonDivisor(k - last, spacing);
                    }
                    last = k;
                }
            }
            return (int) spacing;
        }
    }

    /** The READS of a SPAN and THE LAW of them, found by the way of Berlekamp and Massey. */
    private static final class Law {
        private final Rests rests;
        private final int[] reads = new int[PLACES];
        private int size;
        /** ORDER. */
        int length;
        /** 1, and then c1 .. cL, each taken from 0. */
        private int[] terms = new int[PLACES + 1];
        /** The terms as they were ahead of the last growth. */
        private int[] older = new int[PLACES + 1];
        private int[] spare = new int[PLACES + 1];
        int slantsInAll;
        private final int[] slants = new int[PLACES];

        Law(Rests rests) {
            this.rests = rests;
        }

        void take(Row row, int s, int n) {
            size = n;
            for (int t = 0; t < n; t++) {
                reads[t] = row.readAt(s + t);
            }
        }

        /** Finds THE LAW; gives up with a length above most as soon as it is sure. */
        void find(int most) {
            start();
            int sinceGrowth = 1;
            int missAtGrowth = 1;
            for (int t = 0; t < size && length <= most; t++) {
                int miss = missAt(t);
                if (miss != 0) {
                    int grown = Math.max(length, t + 1 - length);
                    boolean grows = grown > length;
                    if (grows) {
                        System.arraycopy(terms, 0, spare, 0, PLACES + 1);
                    }
                    correct(rests.of(miss * rests.inverse(missAtGrowth)), sinceGrowth, grown);
                    if (grows) {
                        keepSpare();
                        length = grown;
                        missAtGrowth = miss;
                        sinceGrowth = 0;
                    }
                }
                sinceGrowth++;
            }
        }

        private void start() {
            length = 0;
            for (int i = 0; i <= PLACES; i++) {
                terms[i] = 0;
                older[i] = 0;
            }
            terms[0] = 1;
            older[0] = 1;
        }

        /** By how much READ t is more than the terms so far make it. */
        private int missAt(int t) {
            int sum = 0;
            for (int i = 0; i <= length && i <= t; i++) {
                sum += terms[i] * reads[t - i];
            }
            return rests.of(sum);
        }

        private void correct(int factor, int shift, int upTo) {
            int taken = rests.modulus - factor;
            for (int i = shift; i <= upTo && i <= PLACES; i++) {
                terms[i] = rests.of(terms[i] + taken * older[i - shift]);
            }
        }

        private void keepSpare() {
            int[] kept = spare;
            spare = older;
            older = kept;
        }

        boolean isOne() {
            return size >= 2 * length;
        }

        /** c of i, i from 1 to the length. */
        int coefficient(int i) {
            return rests.of(rests.modulus - terms[i]);
        }

        private boolean hasRoot(int z) {
            int value = 0;
            for (int i = 0; i <= length; i++) {
                value = rests.of(value * z + terms[i]);
            }
            return value == 0;
        }

        /** To be called for a LAW that is found; those after it ask what this one finds. */
        void findSlants() {
            slantsInAll = 0;
            for (int z = 1; z < rests.modulus && slantsInAll < PLACES; z++) {
                if (hasRoot(z)) {
                    slants[slantsInAll] = z;
                    slantsInAll++;
                }
            }
        }

        boolean isFull() {
            return slantsInAll == length;
        }

        int slantAt(int i) {
            return i >= 0 && i < slantsInAll ? slants[i] : NONE;
        }

        /**
         * STRENGTH of SLANT z of a FULL LAW. The polynomial of THE LAW without its factor for z
         * is 0 at all other SLANTS: laid upon the READS it leaves the wave of z alone, times what
         * it is at z.
         */
        int strengthOf(int z, int s) {
            int quotient = 1;
            int left = 0;
            int atSlant = 0;
            for (int t = length - 1; t >= 0; t--) {
                left = rests.of(left + quotient * reads[t]);
                atSlant = rests.of(atSlant * z + quotient);
                quotient = rests.of(quotient * z + terms[length - t]);
            }
            int wave = rests.of(atSlant * rests.power(z, s));
            return rests.of(left * rests.inverse(wave));
        }

        /** MENDED for READ t: the least ORDER (0), how many RESTS have it (1), the least (2). */
        int mend(int t, int what) {
            int leastOrder = size;
            int howMany = 0;
            int leastRest = NONE;
            for (int rest = 0; rest < rests.modulus; rest++) {
                reads[t] = rest;
                find(leastOrder);
                if (length < leastOrder || howMany == 0) {
                    leastOrder = length;
                    howMany = 1;
                    leastRest = rest;
                } else if (length == leastOrder) {
                    howMany++;
                }
            }
            if (what == 0) {
                return leastOrder;
            }
            return what == 1 ? howMany : leastRest;
        }
    }

    /** DIFFERENCES of a SET. */
    private static final class Differences {
        private Differences() {
        }

        /** WEIGHT of d. */
        static int pairs(int set, int d) {
            return Integer.bitCount(set & set >> d);
        }

        static int reach(int set) {
            for (int d = 0; d < PLACES; d++) {
                if (pairs(set, d) == 0) {
                    return d - 1;
                }
            }
            return PLACES - 1;
        }

        static int greatest(int set) {
            for (int d = PLACES - 1; d >= 0; d--) {
                if (pairs(set, d) != 0) {
                    return d;
                }
            }
            return NONE;
        }

        static int present(int set) {
            int present = 0;
            for (int d = 0; d < PLACES; d++) {
                if (pairs(set, d) != 0) {
                    present++;
                }
            }
            return present;
        }

        static int holes(int set) {
            return greatest(set) + 1 - present(set);
        }

        static int bestPlace(int set) {
            int place = NONE;
            int farthest = NONE;
            for (int k = 0; k < PLACES; k++) {
                if ((set >> k & 1) == 0) {
                    int reach = reach(set | 1 << k);
                    if (reach > farthest) {
                        farthest = reach;
                        place = k;
                    }
                }
            }
            return place;
        }
    }

    /** STATIONS, and the last CROSSING that was looked for and found. */
    private static final class Stations {
        int size;
        private final int[] xs = new int[STATIONS];
        private final int[] ys = new int[STATIONS];
        private final int[] us = new int[STATIONS];
        private final int[] vs = new int[STATIONS];
        /** The CROSSING is at (crossX / under, crossY / under), under above 0. */
        private long crossX;
        private long crossY;
        private long under = 1;

        Stations() {
        }

        boolean has(int i) {
            return i >= 0 && i < size;
        }

        int add(int x, int y, int u, int v) {
            int number = size;
            xs[number] = x;
            ys[number] = y;
            size++;
            turn(number, u, v);
            return number;
        }

        void turn(int i, int u, int v) {
            us[i] = u;
            vs[i] = v;
        }

        /** Whether i and j have a CROSSING; it is kept then. */
        boolean cross(int i, int j) {
            long turn = us[i] * vs[j] - us[j] * vs[i];
            if (turn == 0) {
                return false;
            }
            // t of each RAY, times the turn
            long dx = xs[j] - xs[i];
            long dy = ys[j] - ys[i];
            long alongI = dx * vs[j] - dy * us[j];
            long alongJ = dx * vs[i] - dy * us[i];
            if (turn < 0) {
                turn = -turn;
                alongI = -alongI;
                alongJ = -alongJ;
            }
            if (alongI < 0 || alongJ < 0) {
                return false;
            }
            under = turn;
            crossX = xs[i] * turn + alongI * us[i];
            crossY = ys[i] * turn + alongI * vs[i];
            return true;
        }

        /** The kept CROSSING: upper and lower number of x (0, 1), of y (2, 3). */
        long partOfCross(int what) {
            long upper = what < 2 ? crossX : crossY;
            long divisor = commonDivisor(Math.abs(upper), under);
            if (divisor < 1) {
                return NOT;
            }
            return (what == 0 || what == 2 ? upper : under) / divisor;
        }

        /** How many other STATIONS than i and j bear out the kept CROSSING. */
        int bearers(int i, int j, int width) {
            int bearers = 0;
            for (int m = 0; m < size && m < STATIONS; m++) {
                if (m != i && m != j && bearsOut(m, width)) {
                    bearers++;
                }
            }
            return bearers;
        }

        /** All is taken times under, so that it stays whole: below 2^62 within the bounds. */
        private boolean bearsOut(int m, int width) {
            long dx = crossX - xs[m] * under;
            long dy = crossY - ys[m] * under;
            if (us[m] * dx + vs[m] * dy < 0) {
                return false;
            }
            long aside = vs[m] * dx - us[m] * dy;
            long wayed = us[m] * us[m] + vs[m] * vs[m];
            return aside * aside <= width * under * (width * under) * wayed;
        }

        int mostBorne(int width, int what) {
            int bestI = NONE;
            int bestJ = NONE;
            int most = NONE;
            for (int i = 0; i < size && i < STATIONS; i++) {
                for (int j = i + 1; j < size && j < STATIONS; j++) {
                    if (cross(i, j)) {
                        int bearers = bearers(i, j, width);
                        if (bearers > most) {
                            most = bearers;
                            bestI = i;
                            bestJ = j;
                        }
                    }
                }
            }
            if (what == 0) {
                return bestI;
            }
            return what == 1 ? bestJ : most;
        }
    }
}
