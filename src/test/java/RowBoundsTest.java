/** Promises 1 to 9, the row: each sentence that names a bound, on both sides of it. */
public final class RowBoundsTest {
    private static final int NONE = Bounds.NONE;
    private static final int UNKNOWN = Bounds.UNKNOWN;
    private static final int OUTSIDE = Bounds.OUTSIDE;
    private static final int NOT = Bounds.NOT;
    private static final int FULL = Bounds.FULL;
    private static final int MIN = Bounds.MIN;
    private static final int MAX = Bounds.MAX;
    private static final int ALL = Bounds.ALL;

    private static final int[] PRIMES = {5, 7, 11, 13, 17, 19, 23, 29, 31, 37, 41, 43, 47, 53, 59, 61, 67, 71, 73, 79, 83, 89, 97};

    private static final Due due = new Due();
    private static final Bounds bounds = new Bounds(due);

    public static void main(String[] args) {
        Cases.run(RowBoundsTest.class, due);
    }

    // ---- 1: a new object

    static void promise01_new_noSenders() {
        due.is("senders", new SenderRows().count(2), 0);
        due.is("drop", new SenderRows().drop(), NOT);
        due.is("tune to the first", new SenderRows().tune(0), UNKNOWN);
        due.is("the first one's number", new SenderRows().sender(1, 1), 0);
    }

    static void promise01_new_noStations() {
        due.is("stations", new SenderRows().count(4), 0);
        due.is("the first looks", new SenderRows().look(0, 1, 1), UNKNOWN);
        due.is("the first's crossing", new SenderRows().crossing(0, 0, 0), UNKNOWN);
        due.is("the first's, borne out", new SenderRows().borne(0, 0, 0), UNKNOWN);
        due.is("most", new SenderRows().most(0, 2), NONE);
        due.is("the first one's number", new SenderRows().station(0, 0, 0, 1), 0);
    }

    static void promise01_new_primeIs31() {
        due.is("P", new SenderRows().count(0), 31);
        due.is("a slant of 30", new SenderRows().sender(30, 1), 0);
        due.is("a slant of 31", new SenderRows().sender(31, 1), OUTSIDE);
        due.is("a read of 30", new SenderRows().read(0, 30), 30);
        due.is("a read of 31", new SenderRows().read(0, 31), OUTSIDE);
    }

    static void promise01_new_hearersAt0To15() {
        SenderRows x = new SenderRows();
        due.is("hearers", x.count(1), 16);
        for (int k = 0; k <= 15; k++) due.is("heard " + k, x.heard(k), 0);
        for (int k = 16; k <= 23; k++) due.is("heard " + k, x.heard(k), NOT);
        due.is("the longest span", x.order(0, 16), 0);
        due.is("one longer", x.order(0, 17), NOT);
    }

    static void promise01_new_gainsAre1() {
        SenderRows x = new SenderRows();
        for (int k = 0; k <= 23; k++) due.is("gain " + k, x.gain(k, 30), 1);
    }

    static void promise01_new_noReadsByHand() {
        SenderRows x = new SenderRows();
        due.is("reads by hand", x.count(3), 0);
        x.hearers(ALL);
        x.sender(1, 9);
        for (int k = 0; k <= 23; k++) due.is("heard " + k, x.heard(k), 9);
    }

    static void promise01_new_sharesNothing() {
        Bounds.busy();
        Bounds.full();
        SenderRows x = new SenderRows();
        int[] wanted = {31, 16, 0, 0, 0, 15, 0, 0, 15, 16};
        for (int what = 0; what < 10; what++) due.is("count " + what, x.count(what), wanted[what]);
    }

    // ---- 2: prime

    static void promise02_prime_tooSmall() {
        due.is("5", new SenderRows().prime(5), 31);
        for (int p : new int[] {4, 3, 2, 1, 0, -1, -5, -31, MIN}) {
            bounds.refusedAlways("prime " + p, OUTSIDE, x -> x.prime(p));
        }
    }

    static void promise02_prime_tooLarge() {
        due.is("97", new SenderRows().prime(97), 31);
        for (int p : new int[] {98, 99, 100, 101, 103, 127, 65537, MAX}) {
            bounds.refusedAlways("prime " + p, OUTSIDE, x -> x.prime(p));
        }
    }

    static void promise02_prime_noPrime() {
        int next = 0;
        SenderRows taken = new SenderRows();
        int before = 31;
        for (int p = 5; p <= 97; p++) {
            if (next < PRIMES.length && PRIMES[next] == p) {
                due.is("prime " + p, taken.prime(p), before);
                due.is("P is " + p, taken.count(0), p);
                before = p;
                next++;
            } else {
                int no = p;
                bounds.refused("prime " + p, Bounds::busy, OUTSIDE, x -> x.prime(no));
            }
        }
        due.is("all primes were there", next, PRIMES.length);
    }

    static void promise02_prime_whatItWas() {
        SenderRows x = new SenderRows();
        due.is("at first", x.prime(5), 31);
        due.is("then", x.prime(97), 5);
        due.is("the same", x.prime(97), 97);
        due.is("back", x.prime(31), 97);
    }

    static void promise02_prime_whatGoes() {
        for (int p : new int[] {37, 5, 97}) {
            SenderRows x = Bounds.busy();
            x.prime(p);
            due.is("senders", x.count(2), 0);
            due.is("drop", x.drop(), NOT);
            due.is("reads by hand", x.count(3), 0);
            x.hearers(ALL);
            for (int k = 0; k < 24; k++) due.is("nothing comes to " + k, x.heard(k), 0);
            for (int k = 0; k < 24; k++) due.is("gain " + k, x.gain(k, 2), 1);
            due.is("a slant that was there", x.sender(3, 1), 0);
            due.is("its wave", x.heard(1), 2 * 3 % p);
        }
    }

    static void promise02_prime_whatStays() {
        SenderRows x = Bounds.busy();
        x.prime(5);
        due.is("hearers", x.count(1), 18);
        due.is("no hearer", x.heard(2), NOT);
        due.is("hearer", x.heard(19), 0);
        due.is("stations", x.count(4), 4);
        // (0, 0) by (1, 2) and (5, -7) by (0, 1)
        due.is("crossing x", x.crossing(0, 2, 0), 5);
        due.is("crossing y", x.crossing(0, 2, 2), 10);
    }

    static void promise02_prime_boundsFollow() {
        for (int p : PRIMES) {
            SenderRows x = new SenderRows();
            x.prime(p);
            due.is("slant and strength", x.sender(p - 1, p - 1), 0);
            // (p - 1) times (p - 1) is 1
            due.is("at 1", x.heard(1), 1);
            due.is("at 0", x.heard(0), p - 1);
            due.is("gain", x.gain(0, p - 1), 1);
            due.is("by the gain", x.heard(0), 1);
            due.is("read", x.read(0, p - 1), p - 1);
            due.is("slant above", x.sender(p, 1), OUTSIDE);
            due.is("strength above", x.sender(1, p), OUTSIDE);
            due.is("gain above", x.gain(0, p), OUTSIDE);
            due.is("read above", x.read(0, p), OUTSIDE);
        }
    }

    // ---- 3: hearers

    static void promise03_hearers_empty() {
        SenderRows x = new SenderRows();
        due.is("0", x.hearers(0), 0);
        for (int k = 0; k < 24; k++) due.is("heard " + k, x.heard(k), NOT);
        bounds.refusedAlways("hearers -1", OUTSIDE, y -> y.hearers(-1));
        bounds.refusedAlways("hearers far below", OUTSIDE, y -> y.hearers(MIN));
    }

    static void promise03_hearers_all() {
        SenderRows x = new SenderRows();
        due.is("2^24 - 1", x.hearers(16777215), 24);
        for (int k = 0; k < 24; k++) due.is("heard " + k, x.heard(k), 0);
        bounds.refusedAlways("hearers 2^24", OUTSIDE, y -> y.hearers(16777216));
        bounds.refusedAlways("hearers 2^24 and 1", OUTSIDE, y -> y.hearers(16777217));
        bounds.refusedAlways("hearers far above", OUTSIDE, y -> y.hearers(MAX));
    }

    static void promise03_hearers_bitForPlace() {
        SenderRows x = new SenderRows();
        for (int bit = 0; bit < 24; bit++) {
            due.is("one hearer", x.hearers(1 << bit), 1);
            due.is("it stands there", x.heard(bit), 0);
            due.is("not below", x.heard(bit - 1), bit == 0 ? OUTSIDE : NOT);
            due.is("not above", x.heard(bit + 1), bit == 23 ? OUTSIDE : NOT);
        }
    }

    static void promise03_hearers_gainsAndReadsStay() {
        SenderRows x = new SenderRows();
        x.hearers(ALL);
        x.sender(1, 3);
        for (int k = 0; k < 24; k++) x.gain(k, k + 2);
        for (int k = 0; k < 24; k += 2) x.read(k, k);
        x.hearers(0);
        due.is("reads by hand", x.count(3), 12);
        x.hearers(ALL);
        for (int k = 0; k < 24; k++) due.is("heard " + k, x.heard(k), k % 2 == 0 ? k : 3 * (k + 2) % 31);
        for (int k = 0; k < 24; k++) due.is("gain " + k, x.gain(k, 1), k + 2);
    }

    // ---- 4: sender

    private static SenderRows oneSender() {
        SenderRows x = Bounds.busy();
        x.drop();
        x.drop();
        return x;
    }

    static void promise04_sender_slantTooSmall() {
        due.is("slant 1", new SenderRows().sender(1, 7), 0);
        for (int z : new int[] {0, -1, -2, -31, MIN}) {
            bounds.refusedAlways("slant " + z, OUTSIDE, x -> x.sender(z, 7));
        }
    }

    static void promise04_sender_slantTooLarge() {
        due.is("slant 30 of 31", new SenderRows().sender(30, 7), 0);
        due.is("slant 35 of 37", Bounds.busy().sender(35, 7), 3);
        bounds.refused("slant 31 of 31", SenderRows::new, OUTSIDE, x -> x.sender(31, 7));
        bounds.refused("slant 33 of 31, alike by rests", Bounds::full, OUTSIDE, x -> x.sender(33, 7));
        bounds.refused("slant 37 of 37", Bounds::busy, OUTSIDE, x -> x.sender(37, 7));
        bounds.refusedAlways("slant far above", OUTSIDE, x -> x.sender(MAX, 7));
    }

    static void promise04_sender_strengthTooSmall() {
        SenderRows taken = new SenderRows();
        due.is("strength 1", taken.sender(2, 1), 0);
        due.is("its wave", taken.heard(4), 16);
        for (int a : new int[] {0, -1, -2, -31, MIN}) {
            bounds.refusedAlways("strength " + a, OUTSIDE, x -> x.sender(4, a));
        }
    }

    static void promise04_sender_strengthTooLarge() {
        SenderRows taken = new SenderRows();
        due.is("strength 30 of 31", taken.sender(2, 30), 0);
        due.is("its wave", taken.heard(1), 29);
        bounds.refused("strength 31 of 31", SenderRows::new, OUTSIDE, x -> x.sender(4, 31));
        bounds.refused("strength 37 of 37", Bounds::busy, OUTSIDE, x -> x.sender(4, 37));
        bounds.refusedAlways("strength far above", OUTSIDE, x -> x.sender(4, MAX));
    }

    static void promise04_sender_slantsAlike() {
        for (int z : new int[] {3, 10, 36}) {
            bounds.refused("alike " + z, Bounds::busy, NOT, x -> x.sender(z, 1));
            if (z < 36) due.is("beside " + z, Bounds.busy().sender(z + 1, 1), 3);
            due.is("beside " + z, Bounds.busy().sender(z - 1, 1), 3);
        }
        due.is("strengths may be alike", Bounds.busy().sender(4, 7), 3);
    }

    static void promise04_sender_slantOfDroppedOneIsFree() {
        SenderRows x = Bounds.busy();
        x.drop();
        due.is("of the dropped one", x.sender(36, 2), 2);
        bounds.refused("of the one left", RowBoundsTest::oneSender, NOT, y -> y.sender(3, 2));
        due.is("of one dropped ahead", oneSender().sender(10, 2), 1);
    }

    static void promise04_sender_ninth() {
        SenderRows x = new SenderRows();
        for (int i = 0; i < 8; i++) due.is("sender " + i, x.sender(30 - i, 1), i);
        due.is("the ninth", x.sender(1, 1), FULL);
        bounds.refused("the ninth", Bounds::full, FULL, y -> y.sender(1, 1));
        x.drop();
        due.is("after a drop the eighth again", x.sender(1, 1), 7);
        due.is("and no ninth", x.sender(2, 1), FULL);
    }

    static void promise04_sender_allSlantsOf5() {
        SenderRows x = new SenderRows();
        x.prime(5);
        for (int z = 1; z <= 4; z++) due.is("slant " + z, x.sender(z, 1), z - 1);
        for (int z = 1; z <= 4; z++) due.is("slant again", x.sender(z, 2), NOT);
        due.is("slant 5", x.sender(5, 1), OUTSIDE);
        // 1 + 2 + 3 + 4, and the fourth powers, all 1
        due.is("at 1", x.heard(1), 0);
        due.is("at 4", x.heard(4), 4);
    }

    static void promise04_sender_firstRefusal() {
        bounds.refused("outside ahead of not: strength", Bounds::busy, OUTSIDE, x -> x.sender(3, 0));
        bounds.refused("outside ahead of full: slant", Bounds::full, OUTSIDE, x -> x.sender(0, 1));
        bounds.refused("outside ahead of full: strength", Bounds::full, OUTSIDE, x -> x.sender(1, 31));
        bounds.refused("outside ahead of not and full", Bounds::full, OUTSIDE, x -> x.sender(2, 31));
        bounds.refused("not ahead of full, the first", Bounds::full, NOT, x -> x.sender(2, 1));
        bounds.refused("not ahead of full, the last", Bounds::full, NOT, x -> x.sender(23, 1));
    }

    // ---- 5: drop

    static void promise05_drop_none() {
        bounds.refused("none", SenderRows::new, NOT, SenderRows::drop);
        SenderRows x = new SenderRows();
        x.sender(4, 4);
        due.is("one", x.drop(), 0);
        due.is("none again", x.drop(), NOT);
        due.is("the next one's number", x.sender(4, 4), 0);
    }

    static void promise05_drop_fromFullToNone() {
        SenderRows x = Bounds.full();
        for (int left = 7; left >= 0; left--) {
            due.is("left", x.drop(), left);
            due.is("counted", x.count(2), left);
        }
        due.is("none", x.drop(), NOT);
        due.is("counted", x.count(2), 0);
    }

    static void promise05_drop_theLast() {
        SenderRows x = new SenderRows();
        x.sender(2, 3);
        x.sender(5, 7);
        x.drop();
        due.is("the first is left: 3 times 2", x.heard(1), 6);
        due.is("and is known", x.tune(0), 0);
        due.is("the second is not", x.tune(1), UNKNOWN);
    }

    // ---- 6: gain

    static void promise06_gain_placeTooSmall() {
        due.is("place 0", Bounds.busy().gain(0, 2), 4);
        bounds.refusedAlways("place -1", OUTSIDE, x -> x.gain(-1, 2));
        bounds.refusedAlways("place far below", OUTSIDE, x -> x.gain(MIN, 2));
    }

    static void promise06_gain_placeTooLarge() {
        due.is("place 23", Bounds.busy().gain(23, 2), 8);
        bounds.refusedAlways("place 24", OUTSIDE, x -> x.gain(24, 2));
        bounds.refusedAlways("place far above", OUTSIDE, x -> x.gain(MAX, 2));
    }

    static void promise06_gain_tooSmall() {
        due.is("gain 1", Bounds.busy().gain(0, 1), 4);
        for (int g : new int[] {0, -1, -2, MIN}) bounds.refusedAlways("gain " + g, OUTSIDE, x -> x.gain(0, g));
    }

    static void promise06_gain_tooLarge() {
        due.is("gain 36 of 37", Bounds.busy().gain(0, 36), 4);
        due.is("gain 30 of 31", Bounds.full().gain(0, 30), 6);
        bounds.refused("gain 37 of 37", Bounds::busy, OUTSIDE, x -> x.gain(0, 37));
        bounds.refused("gain 31 of 31", Bounds::full, OUTSIDE, x -> x.gain(0, 31));
        bounds.refusedAlways("gain far above", OUTSIDE, x -> x.gain(0, MAX));
    }

    static void promise06_gain_whatItWas() {
        SenderRows x = new SenderRows();
        for (int k = 0; k < 24; k++) due.is("at first " + k, x.gain(k, k + 1), 1);
        for (int k = 0; k < 24; k++) due.is("then " + k, x.gain(k, 30), k + 1);
        for (int k = 0; k < 24; k++) due.is("the same " + k, x.gain(k, 30), 30);
    }

    static void promise06_gain_placeWithoutHearer() {
        SenderRows x = new SenderRows();
        x.sender(1, 4);
        due.is("the last with one", x.gain(15, 2), 1);
        due.is("the first without", x.gain(16, 3), 1);
        due.is("heard", x.heard(15), 8);
        due.is("not heard", x.heard(16), NOT);
        x.hearers(ALL);
        due.is("heard when one stands there", x.heard(16), 12);
    }

    // ---- 7: read

    static void promise07_read_placeTooSmall() {
        due.is("place 0", Bounds.busy().read(0, 2), 2);
        bounds.refusedAlways("place -1", OUTSIDE, x -> x.read(-1, 2));
        bounds.refusedAlways("place -1, back", OUTSIDE, x -> x.read(-1, NONE));
        bounds.refusedAlways("place far below", OUTSIDE, x -> x.read(MIN, 2));
    }

    static void promise07_read_placeTooLarge() {
        due.is("place 23", Bounds.busy().read(23, 2), 2);
        bounds.refusedAlways("place 24", OUTSIDE, x -> x.read(24, 2));
        bounds.refusedAlways("place 24, back", OUTSIDE, x -> x.read(24, NONE));
        bounds.refusedAlways("place far above", OUTSIDE, x -> x.read(MAX, 2));
    }

    static void promise07_read_tooSmall() {
        SenderRows x = Bounds.busy();
        due.is("read 0", x.read(0, 0), 0);
        due.is("counted", x.count(3), 4);
        // 5, 2 and 7 times the gain 4
        due.is("NONE", x.read(0, NONE), 56 % 37);
        due.is("counted no more", x.count(3), 3);
        for (int v : new int[] {-2, -3, -37, UNKNOWN, OUTSIDE, MIN}) {
            bounds.refusedAlways("read " + v, OUTSIDE, y -> y.read(1, v));
        }
    }

    static void promise07_read_tooLarge() {
        due.is("read 36 of 37", Bounds.busy().read(0, 36), 36);
        due.is("read 30 of 31", Bounds.full().read(0, 30), 30);
        bounds.refused("read 37 of 37", Bounds::busy, OUTSIDE, x -> x.read(0, 37));
        bounds.refused("read 31 of 31", Bounds::full, OUTSIDE, x -> x.read(0, 31));
        bounds.refusedAlways("read far above", OUTSIDE, x -> x.read(0, MAX));
    }

    static void promise07_read_takenBackWhereNoneWasTold() {
        bounds.asked("nothing to take back", Bounds::busy, 56 % 37, x -> x.read(0, NONE));
        bounds.asked("nothing to take back, nothing comes", SenderRows::new, 0, x -> x.read(23, NONE));
    }

    static void promise07_read_placeWithoutHearer() {
        SenderRows x = new SenderRows();
        x.sender(2, 1);
        due.is("the last with one", x.read(15, 9), 9);
        due.is("the first without", x.read(16, 10), 10);
        due.is("both are counted", x.count(3), 2);
        due.is("heard", x.heard(15), 9);
        due.is("not heard", x.heard(16), NOT);
        due.is("taken back: 2 to the 15th", x.read(15, NONE), 1);
        due.is("taken back: 2 to the 16th", x.read(16, NONE), 2);
        due.is("none is counted", x.count(3), 0);
    }

    static void promise07_read_toldOverAnother() {
        SenderRows x = new SenderRows();
        x.read(4, 5);
        due.is("told again", x.read(4, 6), 6);
        due.is("counted once", x.count(3), 1);
        due.is("heard", x.heard(4), 6);
        due.is("one taking back is enough", x.read(4, NONE), 0);
        due.is("none is counted", x.count(3), 0);
    }

    static void promise07_read_isWithoutGain() {
        SenderRows x = new SenderRows();
        x.gain(4, 3);
        due.is("told", x.read(4, 5), 5);
        due.is("heard", x.heard(4), 5);
        x.gain(4, 7);
        due.is("another gain", x.heard(4), 5);
        x.sender(1, 2);
        due.is("another sender", x.heard(4), 5);
        due.is("taken back", x.read(4, NONE), 14);
    }

    // ---- 8: heard

    static void promise08_heard_placeTooSmall() {
        bounds.asked("place 0", Bounds::busy, 56 % 37, x -> x.heard(0));
        bounds.refusedAlways("place -1", OUTSIDE, x -> x.heard(-1));
        bounds.refusedAlways("place far below", OUTSIDE, x -> x.heard(MIN));
    }

    static void promise08_heard_placeTooLarge() {
        SenderRows last = Bounds.full();
        last.read(23, 4);
        due.is("place 23", last.heard(23), 4);
        bounds.refused("place 23 without a hearer", Bounds::busy, NOT, x -> x.heard(23));
        bounds.refusedAlways("place 24", OUTSIDE, x -> x.heard(24));
        bounds.refusedAlways("place 32, a bit's number again", OUTSIDE, x -> x.heard(32));
        bounds.refusedAlways("place far above", OUTSIDE, x -> x.heard(MAX));
    }

    static void promise08_heard_noHearer() {
        due.is("place 15", new SenderRows().heard(15), 0);
        bounds.refused("place 16", SenderRows::new, NOT, x -> x.heard(16));
        bounds.refused("a read by hand is there", Bounds::busy, NOT, x -> x.heard(2));
        bounds.asked("a read by hand beside it", Bounds::busy, 0, x -> x.heard(1));
        SenderRows none = new SenderRows();
        none.hearers(0);
        due.is("no hearers: outside ahead of not", none.heard(24), OUTSIDE);
        due.is("no hearers: not", none.heard(0), NOT);
    }

    static void promise08_heard_nothingComes() {
        SenderRows x = new SenderRows();
        x.hearers(ALL);
        for (int k = 0; k < 24; k++) due.is("no sender, at " + k, x.heard(k), 0);
        x.gain(3, 30);
        due.is("whatever the gain", x.heard(3), 0);
    }

    static void promise08_heard_sumsWrapAround() {
        SenderRows x = new SenderRows();
        x.sender(1, 20);
        x.sender(2, 10);
        due.is("30 is a rest", x.heard(0), 30);
        x.drop();
        x.sender(2, 11);
        due.is("31 is 0", x.heard(0), 0);
        x.drop();
        x.sender(2, 12);
        due.is("32 is 1", x.heard(0), 1);
    }

    static void promise08_heard_productsWrapAround() {
        SenderRows x = new SenderRows();
        x.hearers(ALL);
        x.sender(2, 1);
        for (int k = 0; k < 24; k++) due.is("2 to the " + k, x.heard(k), 1 << k % 5);
        x.gain(4, 2);
        due.is("16 times 2", x.heard(4), 1);
        x.prime(97);
        x.sender(96, 96);
        x.gain(0, 96);
        x.gain(22, 96);
        x.gain(23, 96);
        due.is("96 times 96, at 0", x.heard(0), 1);
        due.is("at 22", x.heard(22), 1);
        due.is("at 23", x.heard(23), 96);
    }

    static void promise08_heard_eightLoudestOf97() {
        SenderRows x = new SenderRows();
        x.prime(97);
        x.hearers(ALL);
        for (int z = 89; z <= 96; z++) x.sender(z, 96);
        for (int k = 0; k < 24; k++) {
            int sum = 0;
            for (int z = 1; z <= 8; z++) {
                int power = 1;
                for (int step = 0; step < k; step++) power = power * z % 97;
                sum += power;
            }
            // -1 times (-z) to the k-th
            due.is("at " + k, x.heard(k), k % 2 == 0 ? 97 - sum % 97 : sum % 97);
        }
    }

    // ---- 9: count

    private static void counts(SenderRows x, int... wanted) {
        for (int what = 0; what < 10; what++) due.is("count " + what, x.count(what), wanted[what]);
    }

    static void promise09_count_whatTooSmall() {
        bounds.asked("0", Bounds::busy, 37, x -> x.count(0));
        bounds.refusedAlways("-1", OUTSIDE, x -> x.count(-1));
        bounds.refusedAlways("far below", OUTSIDE, x -> x.count(MIN));
    }

    static void promise09_count_whatTooLarge() {
        bounds.asked("9", Bounds::busy, 20, x -> x.count(9));
        bounds.refusedAlways("10", OUTSIDE, x -> x.count(10));
        bounds.refusedAlways("far above", OUTSIDE, x -> x.count(MAX));
    }

    static void promise09_count_askingChangesNothing() {
        int[] wanted = {37, 18, 3, 3, 4, 19, 0, 0, 19, 20};
        for (int what = 0; what < 10; what++) {
            int asked = what;
            bounds.asked("count " + what, Bounds::busy, wanted[what], x -> x.count(asked));
        }
    }

    static void promise09_count_noHearers() {
        SenderRows x = new SenderRows();
        x.hearers(0);
        counts(x, 31, 0, 0, 0, 0, NONE, 0, 435, NONE, 0);
    }

    static void promise09_count_oneHearer() {
        for (int k = 0; k < 24; k++) {
            SenderRows x = new SenderRows();
            x.hearers(1 << k);
            counts(x, 31, 1, 0, 0, 0, 0, 0, 435, 0, 1);
        }
    }

    static void promise09_count_twoHearers() {
        for (int d = 1; d < 24; d++) {
            SenderRows x = new SenderRows();
            x.hearers(1 | 1 << d);
            due.is("reach of " + d, x.count(5), d == 1 ? 1 : 0);
            due.is("holes of " + d, x.count(6), d - 1);
            due.is("greatest of " + d, x.count(8), d);
            due.is("differences of " + d, x.count(9), 2);
        }
    }

    static void promise09_count_allHearers() {
        SenderRows x = new SenderRows();
        x.hearers(ALL);
        counts(x, 31, 24, 0, 0, 0, 23, 0, 0, 23, 24);
        x.hearers(ALL & ~(1 << 23));
        counts(x, 31, 23, 0, 0, 0, 22, 0, 0, 22, 23);
        x.hearers(ALL & ~(1 << 11));
        counts(x, 31, 23, 0, 0, 0, 23, 0, 0, 23, 24);
    }

    static void promise09_count_reachUpToTheFirstHole() {
        SenderRows x = new SenderRows();
        // 0, 1, 4, 6: all up to 6
        x.hearers(0b1010011);
        counts(x, 31, 4, 0, 0, 0, 6, 0, 0, 6, 7);
        // 0, 1, 4, 9, 11: 1, 2, 3, 4, 5, 7, 8, 9, 10, 11, and 6 is a hole
        x.hearers(0b101000010011);
        counts(x, 31, 5, 0, 0, 0, 5, 1, 0, 11, 11);
        // 0, 2, 4: 1 and 3 are holes, and slants are twins by their squares
        x.hearers(0b10101);
        counts(x, 31, 3, 0, 0, 0, 0, 2, 15, 4, 3);
    }

    static void promise09_count_sendersAndStationsFull() {
        SenderRows x = Bounds.full();
        due.is("senders", x.count(2), 8);
        due.is("stations", x.count(4), 6);
        x.sender(1, 1);
        x.station(0, 0, 1, 1);
        due.is("senders, one refused", x.count(2), 8);
        due.is("stations, one refused", x.count(4), 6);
    }

    static void promise09_count_readsAtAnyPlaces() {
        SenderRows x = new SenderRows();
        x.hearers(0);
        for (int k = 0; k < 24; k++) {
            x.read(k, k % 2);
            due.is("told", x.count(3), k + 1);
        }
        for (int k = 0; k < 24; k++) {
            x.read(k, NONE);
            due.is("taken back", x.count(3), 23 - k);
        }
    }

    static void promise09_count_primeAtItsBounds() {
        SenderRows x = new SenderRows();
        x.hearers(1);
        x.prime(5);
        due.is("P", x.count(0), 5);
        due.is("twins", x.count(7), 6);
        x.prime(97);
        due.is("P", x.count(0), 97);
        due.is("twins", x.count(7), 4560);
    }
}
