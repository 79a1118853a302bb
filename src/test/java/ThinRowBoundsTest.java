/** Promises 16 to 18, thin rows: each sentence that names a bound, on both sides of it. */
public final class ThinRowBoundsTest {
    private static final int NONE = Bounds.NONE;
    private static final int OUTSIDE = Bounds.OUTSIDE;
    private static final int MIN = Bounds.MIN;
    private static final int MAX = Bounds.MAX;
    private static final int ALL = Bounds.ALL;

    private static final int[] PRIMES = {5, 7, 11, 13, 17, 19, 23, 29, 31, 37, 41, 43, 47, 53, 59, 61, 67, 71, 73, 79, 83, 89, 97};

    private static final Due due = new Due();
    private static final Bounds bounds = new Bounds(due);

    public static void main(String[] args) {
        Cases.run(ThinRowBoundsTest.class, due);
    }

    private static SenderRows row(int p, int set) {
        SenderRows x = new SenderRows();
        x.prime(p);
        x.hearers(set);
        return x;
    }

    /** Busy, but with HEARERS at 3 and 7 alone: four apart, as are -1 and 1, and 6 and -6. */
    private static SenderRows thin() {
        SenderRows x = Bounds.busy();
        x.hearers(0b10001000);
        return x;
    }

    private static int commonDivisor(int a, int b) {
        return b == 0 ? a : commonDivisor(b, a % b);
    }

    // ---- 16: twin

    static void promise16_twin_whatTooSmall() {
        bounds.asked("0, the lesser", ThinRowBoundsTest::thin, 1, x -> x.twin(0, 0));
        bounds.refusedAlways("-1", OUTSIDE, x -> x.twin(0, -1));
        bounds.refusedAlways("far below", OUTSIDE, x -> x.twin(0, MIN));
        bounds.refused("-1, and there are twins", ThinRowBoundsTest::thin, OUTSIDE, x -> x.twin(0, -1));
    }

    static void promise16_twin_whatTooLarge() {
        // by 37, 6 squared is -1
        bounds.asked("1, the greater", ThinRowBoundsTest::thin, 6, x -> x.twin(0, 1));
        bounds.refusedAlways("2", OUTSIDE, x -> x.twin(0, 2));
        bounds.refusedAlways("far above", OUTSIDE, x -> x.twin(0, MAX));
        bounds.refused("2, and there are twins", ThinRowBoundsTest::thin, OUTSIDE, x -> x.twin(0, 2));
    }

    static void promise16_twin_noneSuch() {
        // 36 slants, nine times four alike; 1, 6, 31, 36 are the ones whose fourth power is 1
        bounds.asked("how many", ThinRowBoundsTest::thin, 54, x -> x.count(7));
        bounds.asked("the first", ThinRowBoundsTest::thin, 1, x -> x.twin(0, 0));
        bounds.asked("-1", ThinRowBoundsTest::thin, NONE, x -> x.twin(-1, 0));
        bounds.asked("far below", ThinRowBoundsTest::thin, NONE, x -> x.twin(MIN, 1));
        bounds.asked("one more", ThinRowBoundsTest::thin, NONE, x -> x.twin(54, 0));
        bounds.asked("one more, the greater", ThinRowBoundsTest::thin, NONE, x -> x.twin(54, 1));
        bounds.asked("far above", ThinRowBoundsTest::thin, NONE, x -> x.twin(MAX, 0));
        due.is("the last", thin().twin(53, 0), 31);
        due.is("the last, the greater", thin().twin(53, 1), 36);
    }

    static void promise16_twin_noneSuchIsOutsideByWhat() {
        bounds.asked("none", Bounds::full, NONE, x -> x.twin(0, 0));
        bounds.refused("none, and what is wrong", Bounds::full, OUTSIDE, x -> x.twin(-1, 2));
    }

    static void promise16_twin_fewerThanTwoHearers() {
        for (int p : new int[] {5, 31, 97}) {
            int all = (p - 1) * (p - 2) / 2;
            for (int set : new int[] {0, 1, 1 << 11, 1 << 23}) {
                SenderRows x = row(p, set);
                due.is("all are", x.count(7), all);
                due.is("the first", x.twin(0, 0), 1);
                due.is("the first", x.twin(0, 1), 2);
                due.is("the last of 1", x.twin(p - 3, 1), p - 1);
                due.is("the first of 2", x.twin(p - 2, 0), 2);
                due.is("the first of 2", x.twin(p - 2, 1), 3);
                due.is("the last", x.twin(all - 1, 0), p - 2);
                due.is("the last", x.twin(all - 1, 1), p - 1);
                due.is("one more", x.twin(all, 0), NONE);
            }
            due.is("two, side by side", row(p, 0b11).count(7), 0);
            due.is("two, side by side", row(p, 0b11).twin(0, 0), NONE);
            due.is("two, side by side at the end", row(p, 0b11 << 22).count(7), 0);
        }
    }

    static void promise16_twin_afterAGreaterPrime() {
        for (int set : new int[] {0, 1 | 1 << 12}) {
            SenderRows x = row(97, set);
            due.is("of 97", x.twin(0, 0), 1);
            int before = 97;
            // 4, 6 and 12 divide 12: all slants are alike
            for (int p : new int[] {13, 7, 5}) {
                int all = (p - 1) * (p - 2) / 2;
                due.is("prime", x.prime(p), before);
                due.is("how many of " + p, x.count(7), all);
                due.is("the last of " + p, x.twin(all - 1, 1), p - 1);
                due.is("no more of " + p, x.twin(all, 0), NONE);
                before = p;
            }
        }
    }

    static void promise16_twin_twoHearers() {
        for (int p : PRIMES) {
            for (int d = 1; d < 24; d++) {
                int alike = commonDivisor(p - 1, d);
                int twins = (p - 1) * (alike - 1) / 2;
                SenderRows x = row(p, 1 | 1 << d);
                due.is(d + " apart, of " + p, x.count(7), twins);
                due.is("the first", x.twin(0, 0), twins == 0 ? NONE : 1);
                due.holds("the last", twins == 0 || x.twin(twins - 1, 0) >= 1);
                due.is("one more", x.twin(twins, 0), NONE);
                x.hearers((1 | 1 << d) << 23 - d);
                due.is(d + " apart at the end, of " + p, x.count(7), twins);
            }
        }
    }

    static void promise16_twin_allPlacesCount() {
        // of 7: squares part all but z and -z, cubes leave three alike; both of them part all
        due.is("0, 2", row(7, 0b101).count(7), 3);
        due.is("0, 2, 4", row(7, 0b10101).count(7), 3);
        due.is("0, 2, 5", row(7, 0b100101).count(7), 0);
        due.is("0, 3", row(7, 0b1001).count(7), 6);
        due.is("0, 3, 6", row(7, 0b1001001).count(7), 6);
        due.is("0, 6", row(7, 0b1000001).count(7), 15);
        due.is("0, 6, 12, 18", row(7, 0b1000001000001000001).count(7), 15);
        due.is("0, 6, 12, 19", row(7, 0b10000001000001000001).count(7), 0);
        due.is("23 too", row(7, 1 | 1 << 6 | 1 << 23).count(7), 0);
        due.is("18 alone", row(7, 1 | 1 << 6 | 1 << 18).count(7), 15);
    }

    static void promise16_twin_fromTheLeastPlaceOn() {
        // 1 and 3: two apart, for all that the cubes of 7 tell other twins
        SenderRows x = row(7, 0b1010);
        int[][] twins = {{1, 6}, {2, 5}, {3, 4}};
        for (int i = 0; i < 3; i++) {
            due.is("lesser " + i, x.twin(i, 0), twins[i][0]);
            due.is("greater " + i, x.twin(i, 1), twins[i][1]);
        }
        due.is("no more", x.twin(3, 0), NONE);
    }

    static void promise16_twin_order() {
        // of 7, cubes 1, 1, -1, 1, -1, -1
        SenderRows x = row(7, 0b1001 << 20);
        int[][] twins = {{1, 2}, {1, 4}, {2, 4}, {3, 5}, {3, 6}, {5, 6}};
        for (int i = 0; i < 6; i++) {
            due.is("lesser " + i, x.twin(i, 0), twins[i][0]);
            due.is("greater " + i, x.twin(i, 1), twins[i][1]);
        }
        due.is("no more", x.twin(6, 0), NONE);
    }

    // ---- 17: weight

    static void promise17_weight_tooSmall() {
        bounds.asked("0", Bounds::busy, 18, x -> x.weight(0));
        bounds.refusedAlways("-1", OUTSIDE, x -> x.weight(-1));
        bounds.refusedAlways("far below", OUTSIDE, x -> x.weight(MIN));
    }

    static void promise17_weight_tooLarge() {
        bounds.asked("23", Bounds::full, 1, x -> x.weight(23));
        bounds.asked("23, none", Bounds::busy, 0, x -> x.weight(23));
        bounds.refusedAlways("24", OUTSIDE, x -> x.weight(24));
        bounds.refusedAlways("32, a shift's number again", OUTSIDE, x -> x.weight(32));
        bounds.refusedAlways("far above", OUTSIDE, x -> x.weight(MAX));
    }

    static void promise17_weight_placeWithItself() {
        for (int n = 0; n <= 24; n++) due.is(n + " hearers", row(31, (1 << n) - 1).weight(0), n);
    }

    static void promise17_weight_allAndNone() {
        SenderRows all = row(31, ALL);
        SenderRows none = row(31, 0);
        for (int d = 0; d < 24; d++) {
            due.is("all: " + d, all.weight(d), 24 - d);
            due.is("none: " + d, none.weight(d), 0);
        }
    }

    static void promise17_weight_twoHearers() {
        for (int d = 1; d < 24; d++) {
            SenderRows x = row(31, (1 | 1 << d) << 23 - d);
            due.is("the pair, once", x.weight(d), 1);
            due.is("one less", x.weight(d - 1), d == 1 ? 2 : 0);
            due.is("one more", x.weight(d + 1), d == 23 ? OUTSIDE : 0);
        }
    }

    // ---- 18: best

    static void promise18_best_whatTooSmall() {
        // of 0 to 19 without 2 and 11: with 20 up to 20, with 21 up to 21, with 22 there is no 20
        bounds.asked("0", Bounds::busy, 21, x -> x.best(0));
        bounds.refusedAlways("-1", OUTSIDE, x -> x.best(-1));
        bounds.refusedAlways("far below", OUTSIDE, x -> x.best(MIN));
    }

    static void promise18_best_whatTooLarge() {
        // 0 to 15, and 23 with them: all up to 23
        bounds.asked("1", SenderRows::new, 23, x -> x.best(1));
        bounds.refusedAlways("2", OUTSIDE, x -> x.best(2));
        bounds.refusedAlways("far above", OUTSIDE, x -> x.best(MAX));
    }

    private static void bestIs(String what, int set, int place, int reach) {
        SenderRows x = row(31, set);
        due.is(what + ": place", x.best(0), place);
        due.is(what + ": reach", x.best(1), reach);
        due.is(what + ": hearers stay", x.count(1), Integer.bitCount(set));
    }

    static void promise18_best_allAreHearers() {
        bestIs("all", ALL, NONE, NONE);
        due.is("all: what is wrong", row(31, ALL).best(2), OUTSIDE);
        for (int k = 0; k < 24; k++) {
            int without = ALL & ~(1 << k);
            bestIs("all but " + k, without, k, 23);
        }
    }

    static void promise18_best_noHearers() {
        bestIs("none", 0, 0, 0);
    }

    static void promise18_best_oneHearer() {
        bestIs("0", 1, 1, 1);
        for (int k = 1; k < 24; k++) bestIs("" + k, 1 << k, k - 1, 1);
    }

    static void promise18_best_leastOfLikeOnes() {
        // 0, 1: 3 gives 1, 2, 3
        bestIs("0, 1", 0b11, 3, 3);
        // 10, 11: 8 gives 1, 2, 3, and so does 13
        bestIs("10, 11", 0b11 << 10, 8, 3);
        // 1, 2: below 0 there is none, 4 gives 1, 2, 3
        bestIs("1, 2", 0b110, 4, 3);
        // 0, 23: each place makes two differences at most
        bestIs("0, 23", 1 | 1 << 23, 1, 1);
        // all reach 23 already
        bestIs("all but 7 and 9", ALL & ~(1 << 7) & ~(1 << 9), 7, 23);
    }

    static void promise18_best_reachEndsAtTheFirstHole() {
        // 0, 5, 10: 1 gives 1, and then 2 is a hole, whatever it gives beyond
        bestIs("0, 5, 10", 0b10000100001, 1, 1);
        // no two of these are 1 or 3 apart, so that no place gives both 1 and 2
        bestIs("0, 4, 9, 15, 22", 1 | 1 << 4 | 1 << 9 | 1 << 15 | 1 << 22, 1, 1);
        // 4 and 7: 5 gives 1 and 2
        bestIs("4, 7", 1 << 4 | 1 << 7, 5, 3);
        bestIs("1 to 22", 0x7FFFFE, 0, 22);
        bestIs("8 to 15", 0xFF00, 0, 15);
    }

    static void promise18_best_lastPlace() {
        bestIs("0 to 15", 0xFFFF, 23, 23);
        bestIs("0 to 22", 0x7FFFFF, 23, 23);
        bestIs("1 to 23", 0xFFFFFE, 0, 23);
        bestIs("8 to 23", 0xFFFF00, 0, 23);
    }
}
