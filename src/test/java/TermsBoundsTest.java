import java.util.Random;

/**
 * What the document says of all calls: the constants, how many calls an object is used for, that
 * asking changes nothing, that no call throws whatever its arguments, and that one object knows
 * nothing of another.
 */
public final class TermsBoundsTest {
    private static final int NONE = Bounds.NONE;
    private static final int ALL = Bounds.ALL;
    private static final int CALLS = 512;

    private static final Due due = new Due();
    private static final Bounds bounds = new Bounds(due);

    public static void main(String[] args) {
        Cases.run(TermsBoundsTest.class, due);
    }

    static void terms_constants() {
        due.is("NONE", SenderRows.NONE, -1);
        due.is("UNKNOWN", SenderRows.UNKNOWN, -1001);
        due.is("OUTSIDE", SenderRows.OUTSIDE, -1002);
        due.is("NOT", SenderRows.NOT, -1003);
        due.is("FULL", SenderRows.FULL, -1004);
    }

    // ---- 512 calls

    static void terms_calls_changingUpToThe512th() {
        SenderRows x = new SenderRows();
        for (int call = 1; call <= CALLS; call += 2) {
            due.is("call " + call, x.sender(7, 30), 0);
            due.is("call " + (call + 1), x.drop(), 0);
        }
        SenderRows gains = new SenderRows();
        for (int call = 1; call <= CALLS; call++) {
            due.is("call " + call, gains.gain(5, call % 30 + 1), call == 1 ? 1 : (call - 1) % 30 + 1);
        }
        SenderRows primes = new SenderRows();
        for (int call = 1; call <= CALLS; call++) {
            due.is("call " + call, primes.prime(call % 2 == 0 ? 5 : 97), call == 1 ? 31 : call % 2 == 0 ? 97 : 5);
        }
        SenderRows looks = new SenderRows();
        looks.station(0, 0, 1, 0);
        for (int call = 2; call <= CALLS; call++) due.is("call " + call, looks.look(0, call % 100, -1), 1);
    }

    static void terms_calls_refusedUpToThe512th() {
        SenderRows x = new SenderRows();
        for (int call = 1; call < CALLS; call++) due.is("call " + call, x.drop(), Bounds.NOT);
        due.is("the 512th", x.count(2), 0);
        SenderRows y = new SenderRows();
        for (int call = 1; call < CALLS; call++) due.is("call " + call, y.station(0, 0, 0, 0), Bounds.OUTSIDE);
        due.is("the 512th", y.station(0, 0, 0, 1), 0);
    }

    static void terms_calls_dearestUpToThe512th() {
        SenderRows x = new SenderRows();
        x.prime(97);
        x.hearers(ALL);
        for (int z = 1; z <= 8; z++) x.sender(12 * z, z);
        for (int call = 11; call < CALLS; call++) due.is("call " + call, x.mended(0, 24, call % 24, 0), 8);
        due.is("the 512th", x.mended(0, 24, 23, 1), 1);
        SenderRows twins = new SenderRows();
        twins.prime(97);
        twins.hearers(0);
        for (int call = 3; call <= CALLS; call++) due.is("call " + call, twins.twin(4559, 1), 96);
    }

    static void terms_calls_beyondThe512thEnd() {
        SenderRows x = Bounds.full();
        for (int call = 0; call < 4 * CALLS; call++) anyCall(x, call % 22, call % 25 - 1, call % 7, call % 31, call % 3);
        due.holds("still no throw", true);
    }

    // ---- no call throws

    private static void anyCall(SenderRows x, int which, int a, int b, int c, int d) {
        switch (which) {
            case 0: x.prime(a); break;
            case 1: x.hearers(a); break;
            case 2: x.sender(a, b); break;
            case 3: x.drop(); break;
            case 4: x.gain(a, b); break;
            case 5: x.read(a, b); break;
            case 6: x.heard(a); break;
            case 7: x.count(a); break;
            case 8: x.order(a, b); break;
            case 9: x.law(a, b, c); break;
            case 10: x.slant(a, b, c); break;
            case 11: x.strength(a, b, c); break;
            case 12: x.mended(a, b, c, d); break;
            case 13: x.tune(a); break;
            case 14: x.twin(a, b); break;
            case 15: x.weight(a); break;
            case 16: x.best(a); break;
            case 17: x.station(a, b, c, d); break;
            case 18: x.look(a, b, c); break;
            case 19: x.crossing(a, b, c); break;
            case 20: x.borne(a, b, c); break;
            default: x.most(a, b);
        }
    }

    static void terms_arguments_extremesNeverThrow() {
        int[] extremes = {Integer.MIN_VALUE, Integer.MIN_VALUE + 1, -1, 0, 1, 23, 24, Integer.MAX_VALUE - 1, Integer.MAX_VALUE};
        for (int which = 0; which < 22; which++) {
            for (int a : extremes) {
                SenderRows busy = Bounds.busy();
                for (int b : extremes) {
                    for (int c : extremes) {
                        for (int d : new int[] {Integer.MIN_VALUE, 0, 1, Integer.MAX_VALUE}) anyCall(busy, which, a, b, c, d);
                    }
                }
            }
        }
        due.holds("no throw", true);
    }

    static void terms_arguments_anyNeverThrow() {
        Random random = new Random(6);
        for (int run = 0; run < 40; run++) {
            SenderRows x = run % 2 == 0 ? Bounds.full() : Bounds.busy();
            for (int call = 0; call < CALLS; call++) {
                int small = 1 << random.nextInt(31);
                anyCall(x, random.nextInt(22), random.nextInt(small) - 1, random.nextInt(small) - 1,
                    random.nextInt(26) - 1, random.nextInt(4));
            }
        }
        due.holds("no throw", true);
    }

    // ---- asking changes nothing

    static void terms_asking_changesNothing() {
        int[][] asked = {{6, 3}, {7, 7}, {8, 4, 7}, {9, 4, 7, 1}, {10, 4, 7, 0}, {11, 4, 7, 0}, {12, 4, 7, 5, 2},
            {12, 4, 7, 4, 0}, {14, 0, 0}, {15, 3}, {16, 0}, {16, 1}, {19, 0, 1, 0}, {20, 0, 1, 9}, {21, 9, 0}};
        for (int[] call : asked) {
            int[] c = java.util.Arrays.copyOf(call, 5);
            bounds.asked("call " + c[0], Bounds::busy, 0, x -> {
                anyCall(x, c[0], c[1], c[2], c[3], c[4]);
                return 0;
            });
        }
    }

    static void terms_asking_oneCallDoesNotTouchTheNext() {
        SenderRows x = Bounds.busy();
        int order = x.order(4, 7);
        x.mended(12, 8, 13, 0);
        x.slant(12, 8, 0);
        due.is("order, after others", x.order(4, 7), order);
        long crossing = x.crossing(0, 1, 0);
        x.most(200, 0);
        x.crossing(1, 2, 0);
        x.crossing(0, 0, 0);
        due.is("crossing, after others", x.crossing(0, 1, 0), crossing);
        x.twin(0, 0);
        x.best(0);
        due.is("hearers, after others", x.count(1), 18);
    }

    // ---- objects of their own

    static void terms_objects_knowNothingOfAnother() {
        SenderRows x = Bounds.busy();
        SenderRows y = Bounds.full();
        due.is("one", x.slant(4, 6, 1), 10);
        due.is("the other", y.order(8, 15) >= 0 ? y.count(0) : NONE, 31);
        x.prime(5);
        due.is("prime", y.count(0), 31);
        due.is("senders", y.count(2), 8);
        x.hearers(0);
        due.is("hearers", y.count(1), 24);
        y.look(0, 1, 0);
        due.is("stations", x.count(4), 4);
        due.is("crossing", x.crossing(0, 1, 0), 11);
    }
}
