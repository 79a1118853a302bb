/** Promises 10 to 15, spans: each sentence that names a bound, on both sides of it. */
public final class SpanBoundsTest {
    private static final int NONE = Bounds.NONE;
    private static final int UNKNOWN = Bounds.UNKNOWN;
    private static final int OUTSIDE = Bounds.OUTSIDE;
    private static final int NOT = Bounds.NOT;
    private static final int MIN = Bounds.MIN;
    private static final int MAX = Bounds.MAX;
    private static final int ALL = Bounds.ALL;

    private static final Due due = new Due();
    private static final Bounds bounds = new Bounds(due);

    public static void main(String[] args) {
        Cases.run(SpanBoundsTest.class, due);
    }

    /** A call of a SPAN, its other arguments within their bounds. */
    private interface SpanCall {
        int on(SenderRows x, int s, int n);
    }

    private static SenderRows wave() {
        SenderRows x = new SenderRows();
        x.hearers(ALL);
        x.sender(7, 3);
        x.sender(2, 5);
        return x;
    }

    private static SenderRows noHearers() {
        SenderRows x = Bounds.busy();
        x.hearers(0);
        return x;
    }

    private static SenderRows withReads(int p, int... reads) {
        return Bounds.withReads(p, reads);
    }

    /** n READS that are 0, but for one. */
    private static int[] zerosAnd(int n, int at, int read) {
        int[] reads = new int[n];
        reads[at] = read;
        return reads;
    }

    // ---- what is a SPAN, the same for five calls

    private static void startTooSmall(SpanCall call) {
        due.holds("s 0", call.on(wave(), 0, 4) >= 0);
        bounds.refusedAlways("s -1", OUTSIDE, x -> call.on(x, -1, 4));
        bounds.refusedAlways("s far below", OUTSIDE, x -> call.on(x, MIN, 4));
    }

    private static void startTooLarge(SpanCall call) {
        SenderRows zeros = new SenderRows();
        zeros.hearers(ALL);
        due.holds("s 23", call.on(zeros, 23, 1) >= NONE);
        bounds.refused("s 23 without a hearer", Bounds::busy, NOT, x -> call.on(x, 23, 1));
        bounds.refusedAlways("s 24", OUTSIDE, x -> call.on(x, 24, 1));
        bounds.refusedAlways("s 24, nothing left", OUTSIDE, x -> call.on(x, 24, 0));
        bounds.refusedAlways("s 32, a bit's number again", OUTSIDE, x -> call.on(x, 32, 1));
        bounds.refusedAlways("s far above", OUTSIDE, x -> call.on(x, MAX, 1));
    }

    private static void lengthTooSmall(SpanCall call) {
        due.holds("n 1", call.on(withReads(31, 0), 0, 1) >= NONE);
        bounds.refusedAlways("n 0", OUTSIDE, x -> call.on(x, 3, 0));
        bounds.refusedAlways("n -1", OUTSIDE, x -> call.on(x, 3, -1));
        bounds.refusedAlways("n far below", OUTSIDE, x -> call.on(x, 3, MIN));
    }

    private static void lengthTooLarge(SpanCall call) {
        SenderRows all = wave();
        for (int s = 0; s <= 20; s++) due.holds("n to the end from " + s, call.on(all, s, 24 - s) >= 0);
        SenderRows none = noHearers();
        for (int s = 0; s < 24; s++) {
            due.is("n to the end from " + s + ", no hearers", call.on(none, s, 24 - s), NOT);
            due.is("n beyond the end from " + s + ", no hearers", call.on(none, s, 25 - s), OUTSIDE);
            due.is("n beyond the end from " + s, call.on(all, s, 25 - s), OUTSIDE);
        }
        bounds.refusedAlways("n 25", OUTSIDE, x -> call.on(x, 0, 25));
        bounds.refusedAlways("n 2 from 23", OUTSIDE, x -> call.on(x, 23, 2));
        bounds.refusedAlways("n far above", OUTSIDE, x -> call.on(x, 1, MAX));
        bounds.refusedAlways("both far above", OUTSIDE, x -> call.on(x, MAX, MAX));
        bounds.refusedAlways("their sum wraps around to the row", OUTSIDE, x -> call.on(x, 20, MAX - 10));
    }

    private static void notAllHearers(SpanCall call) {
        SenderRows x = wave();
        int stretch = 0b11111111;
        x.hearers(stretch << 5);
        due.holds("all of them", call.on(x, 5, 8) >= 0);
        due.is("one ahead of them", call.on(x, 4, 9), NOT);
        due.is("one after them", call.on(x, 5, 9), NOT);
        for (int lost = 0; lost < 8; lost++) {
            x.hearers((stretch & ~(1 << lost)) << 5);
            due.is("lost: " + lost, call.on(x, 5, 8), NOT);
            x.hearers(ALL & ~(1 << lost + 5));
            due.is("lost of all: " + lost, call.on(x, 5, 8), NOT);
        }
        x.hearers(ALL & ~(1 << 4) & ~(1 << 13));
        due.holds("lost on both sides of it", call.on(x, 5, 8) >= 0);
        bounds.refused("not all", Bounds::busy, NOT, y -> call.on(y, 3, 9));
        bounds.refused("not all of the longest", Bounds::busy, NOT, y -> call.on(y, 0, 24));
    }

    // ---- 10: order

    static void promise10_order_startTooSmall() {
        startTooSmall(SenderRows::order);
    }

    static void promise10_order_startTooLarge() {
        startTooLarge(SenderRows::order);
    }

    static void promise10_order_lengthTooSmall() {
        lengthTooSmall(SenderRows::order);
    }

    static void promise10_order_lengthTooLarge() {
        lengthTooLarge(SenderRows::order);
    }

    static void promise10_order_notAllHearers() {
        notAllHearers(SenderRows::order);
    }

    static void promise10_order_allAre0() {
        for (int n = 1; n <= 24; n++) {
            SenderRows x = withReads(5, new int[n]);
            due.is(n + " zeros", x.order(0, n), 0);
            x.read(0, 4);
            due.is("the first is not 0", x.order(0, n), 1);
        }
    }

    static void promise10_order_noLesserOne() {
        for (int n = 1; n <= 24; n++) {
            SenderRows x = withReads(5, zerosAnd(n, n - 1, 1));
            due.is("the last of " + n + " alone is not 0", x.order(0, n), n);
            if (n > 1) {
                x = withReads(5, zerosAnd(n, n - 2, 1));
                due.is("the last but one of " + n + " alone is not 0", x.order(0, n), n - 1);
            }
        }
    }

    static void promise10_order_oneRead() {
        due.is("0", withReads(97, 0).order(0, 1), 0);
        due.is("1", withReads(97, 1).order(0, 1), 1);
        due.is("96", withReads(97, 96).order(0, 1), 1);
    }

    static void promise10_order_brokenByTheLastRead() {
        // 1, 2, 4, 8, 16 and then 1: 2 times each, and 32 is 1
        due.is("as 2 to the k-th", withReads(31, 1, 2, 4, 8, 16, 1).order(0, 6), 1);
        due.is("the last one wrong", withReads(31, 1, 2, 4, 8, 16, 2).order(0, 6), 5);
        due.is("without the last one", withReads(31, 1, 2, 4, 8, 16, 2).order(0, 5), 1);
        due.is("the first one wrong", withReads(31, 3, 2, 4, 8, 16, 1).order(0, 6), 2);
        due.is("without the first one", withReads(31, 3, 2, 4, 8, 16, 1).order(1, 5), 1);
    }

    static void promise10_order_fromTheLthReadOn() {
        // 1, 1, 2: a law of length 1 would have to make 2 of 1, and 1 of 1
        due.is("1, 1", withReads(7, 1, 1).order(0, 2), 1);
        due.is("1, 1, 2", withReads(7, 1, 1, 2).order(0, 3), 2);
        due.is("1, 1, 2, 3", withReads(7, 1, 1, 2, 3).order(0, 4), 2);
        due.is("1, 1, 2, 4", withReads(7, 1, 1, 2, 4).order(0, 4), 2);
        due.is("1, 1, 2, 3, 6", withReads(7, 1, 1, 2, 3, 6).order(0, 5), 3);
        due.is("1, 1, 2, 3, 5", withReads(7, 1, 1, 2, 3, 5).order(0, 5), 2);
    }

    static void promise10_order_eightSenders() {
        SenderRows x = Bounds.full();
        x.read(7, NONE);
        x.gain(0, 1);
        x.gain(23, 1);
        for (int n = 16; n <= 24; n++) due.is("of " + n, x.order(0, n), 8);
        due.is("of the last 16", x.order(8, 16), 8);
        due.holds("of 9 at most 8", x.order(0, 9) <= 8);
        x.gain(23, 2);
        due.is("one gain is wrong", x.order(0, 24), 16);
        due.is("beside it", x.order(0, 23), 8);
    }

    static void promise10_order_askingChangesNothing() {
        // place 3 has the gain 36, so -1: 4 to 10 are of three senders
        bounds.asked("busy", Bounds::busy, 3, x -> x.order(4, 7));
        bounds.asked("new", SenderRows::new, 0, x -> x.order(0, 16));
    }

    // ---- 11: law

    private static int lawIsOne(SenderRows x, int s, int n) {
        return x.law(s, n, 0);
    }

    static void promise11_law_startTooSmall() {
        startTooSmall(SpanBoundsTest::lawIsOne);
    }

    static void promise11_law_startTooLarge() {
        startTooLarge(SpanBoundsTest::lawIsOne);
    }

    static void promise11_law_lengthTooSmall() {
        lengthTooSmall(SpanBoundsTest::lawIsOne);
    }

    static void promise11_law_lengthTooLarge() {
        lengthTooLarge(SpanBoundsTest::lawIsOne);
    }

    static void promise11_law_notAllHearers() {
        notAllHearers(SpanBoundsTest::lawIsOne);
    }

    static void promise11_law_termTooSmall() {
        bounds.asked("i 0", Bounds::busy, 1, x -> x.law(4, 6, 0));
        bounds.refused("i -1", Bounds::busy, OUTSIDE, x -> x.law(4, 6, -1));
        bounds.refused("i far below", Bounds::busy, OUTSIDE, x -> x.law(4, 6, MIN));
        bounds.refused("i -1, and not all hearers", Bounds::busy, OUTSIDE, x -> x.law(4, 8, -1));
        bounds.refused("i -1, and not one", Bounds::busy, OUTSIDE, x -> x.law(4, 5, -1));
    }

    static void promise11_law_termTooLarge() {
        // (z - 3) (z - 10) (z + 1) is z^3 - 12 z^2 + 17 z + 30
        bounds.asked("i 1", Bounds::busy, 12, x -> x.law(4, 6, 1));
        bounds.asked("i 2", Bounds::busy, 37 - 17, x -> x.law(4, 6, 2));
        bounds.asked("i 3", Bounds::busy, 37 - 30, x -> x.law(4, 6, 3));
        bounds.refused("i 4", Bounds::busy, OUTSIDE, x -> x.law(4, 6, 4));
        bounds.refused("i far above", Bounds::busy, OUTSIDE, x -> x.law(4, 6, MAX));
        bounds.refused("no span, so no L", Bounds::busy, NOT, x -> x.law(4, 8, 4));
    }

    static void promise11_law_everyOrderToItsEnd() {
        for (int order = 1; order <= 12; order++) {
            SenderRows x = withReads(5, zerosAnd(2 * order, order - 1, 1));
            due.is("one", x.law(0, 2 * order, 0), 1);
            due.is("the last term", x.law(0, 2 * order, order), 0);
            due.is("one more", x.law(0, 2 * order, order + 1), OUTSIDE);
        }
    }

    static void promise11_law_isOneFrom2LOn() {
        for (int order = 1; order <= 12; order++) {
            // 0 .. 0 1 0 .. 0: all terms are 0
            SenderRows x = withReads(5, zerosAnd(2 * order, order - 1, 1));
            int n = 2 * order;
            due.is("order", x.order(0, n), order);
            due.is("n is 2 L", x.law(0, n, 0), 1);
            due.is("n is 2 L: c1", x.law(0, n, 1), 0);
            due.is("order", x.order(0, n - 1), order);
            due.is("n is 2 L - 1", x.law(0, n - 1, 0), 0);
            due.is("n is 2 L - 1: c1", x.law(0, n - 1, 1), NOT);
            due.is("n is 2 L - 1: cL", x.law(0, n - 1, order), NOT);
        }
    }

    static void promise11_law_notOne() {
        bounds.asked("whether", Bounds::busy, 0, x -> x.law(4, 5, 0));
        bounds.refused("c1", Bounds::busy, NOT, x -> x.law(4, 5, 1));
        bounds.refused("cL", Bounds::busy, NOT, x -> x.law(4, 5, 3));
        bounds.refused("beyond: outside ahead of not", Bounds::busy, OUTSIDE, x -> x.law(4, 5, 4));
    }

    static void promise11_law_orderIsN() {
        SenderRows x = withReads(5, 0, 0, 0, 1);
        due.is("whether", x.law(0, 4, 0), 0);
        due.is("c1", x.law(0, 4, 1), NOT);
        due.is("c4", x.law(0, 4, 4), NOT);
        due.is("c5", x.law(0, 4, 5), OUTSIDE);
        due.is("one read: whether", x.law(3, 1, 0), 0);
        due.is("one read: c1", x.law(3, 1, 1), NOT);
        due.is("one read: c2", x.law(3, 1, 2), OUTSIDE);
    }

    static void promise11_law_orderIs0() {
        for (int n = 1; n <= 16; n++) {
            due.is("one, of " + n, new SenderRows().law(0, n, 0), 1);
            due.is("c1, of " + n, new SenderRows().law(0, n, 1), OUTSIDE);
        }
    }

    static void promise11_law_termsAreRests() {
        SenderRows least = withReads(31, 3, 0, 0, 0);
        due.is("the least: 0", least.law(0, 4, 1), 0);
        SenderRows greatest = withReads(31, 1, 30, 1, 30);
        due.is("the greatest: P - 1", greatest.law(0, 4, 1), 30);
        SenderRows of97 = withReads(97, 1, 96, 1, 96);
        due.is("the greatest of 97", of97.law(0, 4, 1), 96);
        // each as the one two ahead
        SenderRows gap = withReads(5, 1, 2, 1, 2);
        due.is("c1", gap.law(0, 4, 1), 0);
        due.is("c2", gap.law(0, 4, 2), 1);
    }

    // ---- 12: slant

    private static int howManySlants(SenderRows x, int s, int n) {
        return x.slant(s, n, NONE);
    }

    static void promise12_slant_startTooSmall() {
        startTooSmall(SpanBoundsTest::howManySlants);
    }

    static void promise12_slant_startTooLarge() {
        startTooLarge(SpanBoundsTest::howManySlants);
    }

    static void promise12_slant_lengthTooSmall() {
        lengthTooSmall(SpanBoundsTest::howManySlants);
    }

    static void promise12_slant_lengthTooLarge() {
        lengthTooLarge(SpanBoundsTest::howManySlants);
    }

    static void promise12_slant_notAllHearers() {
        notAllHearers(SpanBoundsTest::howManySlants);
    }

    static void promise12_slant_notOne() {
        bounds.asked("n is 2 L: how many", Bounds::busy, 3, x -> x.slant(4, 6, NONE));
        bounds.asked("n is 2 L: the first", Bounds::busy, 3, x -> x.slant(4, 6, 0));
        bounds.refused("n is 2 L - 1: how many", Bounds::busy, NOT, x -> x.slant(4, 5, NONE));
        bounds.refused("n is 2 L - 1: the first", Bounds::busy, NOT, x -> x.slant(4, 5, 0));
        bounds.refused("n is 2 L - 1: none such", Bounds::busy, NOT, x -> x.slant(4, 5, 9));
    }

    static void promise12_slant_noneSuch() {
        bounds.asked("the last", Bounds::busy, 36, x -> x.slant(4, 6, 2));
        bounds.asked("one more", Bounds::busy, NONE, x -> x.slant(4, 6, 3));
        bounds.asked("far above", Bounds::busy, NONE, x -> x.slant(4, 6, MAX));
        bounds.asked("below NONE", Bounds::busy, NONE, x -> x.slant(4, 6, -2));
        bounds.asked("far below", Bounds::busy, NONE, x -> x.slant(4, 6, MIN));
    }

    static void promise12_slant_bySize() {
        SenderRows x = new SenderRows();
        int[] told = {30, 1, 16, 2, 29, 15, 3, 28};
        int[] bySize = {1, 2, 3, 15, 16, 28, 29, 30};
        for (int z : told) x.sender(z, z);
        due.is("how many", x.slant(0, 16, NONE), 8);
        for (int i = 0; i < 8; i++) due.is("slant " + i, x.slant(0, 16, i), bySize[i]);
        due.is("slant 8", x.slant(0, 16, 8), NONE);
    }

    static void promise12_slant_from1On() {
        due.is("z as 0: none", withReads(7, 3, 0).slant(0, 2, NONE), 0);
        due.is("z as 0: none", withReads(7, 3, 0).slant(0, 2, 0), NONE);
        due.is("z as 1", withReads(7, 3, 3).slant(0, 2, NONE), 1);
        due.is("z as 1", withReads(7, 3, 3).slant(0, 2, 0), 1);
        // z^2 as z: 0 and 1
        due.is("0 and 1", withReads(7, 3, 2, 2, 2).slant(0, 4, NONE), 1);
        due.is("0 and 1", withReads(7, 3, 2, 2, 2).slant(0, 4, 0), 1);
        due.is("0 and 1", withReads(7, 3, 2, 2, 2).slant(0, 4, 1), NONE);
    }

    static void promise12_slant_upToPLess1() {
        for (int p : new int[] {5, 31, 97}) {
            SenderRows x = withReads(p, 1, p - 1, 1, p - 1);
            due.is("how many of " + p, x.slant(0, 4, NONE), 1);
            due.is("the greatest of " + p, x.slant(0, 4, 0), p - 1);
        }
    }

    static void promise12_slant_noneOfALaw() {
        // z^2 as -1: none of 7, but 2 and 3 of 5
        due.is("of 7", withReads(7, 1, 0, 6, 0).slant(0, 4, NONE), 0);
        due.is("of 7", withReads(7, 1, 0, 6, 0).slant(0, 4, 0), NONE);
        due.is("of 5", withReads(5, 1, 0, 4, 0).slant(0, 4, NONE), 2);
        due.is("of 5", withReads(5, 1, 0, 4, 0).slant(0, 4, 0), 2);
        due.is("of 5", withReads(5, 1, 0, 4, 0).slant(0, 4, 1), 3);
    }

    static void promise12_slant_oneTwice() {
        // 0, 1, 2, 3: (z - 1) squared
        due.is("how many", withReads(7, 0, 1, 2, 3).slant(0, 4, NONE), 1);
        due.is("the first", withReads(7, 0, 1, 2, 3).slant(0, 4, 0), 1);
        due.is("no second", withReads(7, 0, 1, 2, 3).slant(0, 4, 1), NONE);
    }

    static void promise12_slant_orderIs0() {
        for (int n = 1; n <= 16; n++) {
            due.is("how many, of " + n, new SenderRows().slant(0, n, NONE), 0);
            due.is("the first, of " + n, new SenderRows().slant(0, n, 0), NONE);
        }
    }

    static void promise12_slant_asManyAsPossible() {
        // 1, 0, 0, 0 again and again: z^4 as 1, all of 5; and z^12 as 1, twelve of 13
        SenderRows four = withReads(5, 1, 0, 0, 0, 1, 0, 0, 0);
        due.is("four of 5", four.slant(0, 8, NONE), 4);
        for (int i = 0; i < 4; i++) due.is("slant " + i, four.slant(0, 8, i), i + 1);
        int[] reads = zerosAnd(24, 0, 1);
        reads[12] = 1;
        SenderRows twelve = withReads(13, reads);
        due.is("order", twelve.order(0, 24), 12);
        due.is("twelve of 13", twelve.slant(0, 24, NONE), 12);
        for (int i = 0; i < 12; i++) due.is("slant " + i, twelve.slant(0, 24, i), i + 1);
        due.is("slant 12", twelve.slant(0, 24, 12), NONE);
    }

    // ---- 13: strength

    private static int firstStrength(SenderRows x, int s, int n) {
        return x.strength(s, n, 0);
    }

    static void promise13_strength_startTooSmall() {
        startTooSmall(SpanBoundsTest::firstStrength);
    }

    static void promise13_strength_startTooLarge() {
        startTooLarge(SpanBoundsTest::firstStrength);
    }

    static void promise13_strength_lengthTooSmall() {
        lengthTooSmall(SpanBoundsTest::firstStrength);
    }

    static void promise13_strength_lengthTooLarge() {
        lengthTooLarge(SpanBoundsTest::firstStrength);
    }

    static void promise13_strength_notAllHearers() {
        notAllHearers(SpanBoundsTest::firstStrength);
    }

    static void promise13_strength_notOne() {
        bounds.asked("n is 2 L", Bounds::busy, 5, x -> x.strength(4, 6, 0));
        bounds.refused("n is 2 L - 1", Bounds::busy, NOT, x -> x.strength(4, 5, 0));
        bounds.refused("n is 2 L - 1, none such", Bounds::busy, NOT, x -> x.strength(4, 5, 7));
        bounds.refused("n is 2 L - 1, below", Bounds::busy, NOT, x -> x.strength(4, 5, NONE));
    }

    static void promise13_strength_noneSuch() {
        bounds.asked("the first", Bounds::busy, 5, x -> x.strength(4, 6, 0));
        bounds.asked("one less", Bounds::busy, NONE, x -> x.strength(4, 6, -1));
        bounds.asked("far below", Bounds::busy, NONE, x -> x.strength(4, 6, MIN));
        bounds.asked("the last", Bounds::busy, 7, x -> x.strength(4, 6, 2));
        bounds.asked("one more", Bounds::busy, NONE, x -> x.strength(4, 6, 3));
        bounds.asked("far above", Bounds::busy, NONE, x -> x.strength(4, 6, MAX));
    }

    static void promise13_strength_notFull() {
        due.is("two of two", withReads(5, 1, 0, 4, 0).strength(0, 4, 0), 3);
        due.is("none of two", withReads(7, 1, 0, 6, 0).strength(0, 4, 0), NONE);
        due.is("one of two: 0 is none", withReads(7, 3, 2, 2, 2).strength(0, 4, 0), NONE);
        due.is("one of two: twice the same", withReads(7, 0, 1, 2, 3).strength(0, 4, 0), NONE);
        due.is("none of one", withReads(7, 3, 0).strength(0, 2, 0), NONE);
        due.is("one of one", withReads(7, 3, 3).strength(0, 2, 0), 3);
        // 1 + (-1)^k ..: z^3 as 1 has 1 alone of 5, and 1, 2, 4 of 7
        due.is("one of three", withReads(5, 1, 0, 0, 1, 0, 0).strength(0, 6, 0), NONE);
        due.is("three of three", withReads(7, 1, 0, 0, 1, 0, 0).strength(0, 6, 2), 5);
    }

    static void promise13_strength_orderIs0() {
        for (int n = 1; n <= 16; n++) due.is("of " + n, new SenderRows().strength(0, n, 0), NONE);
    }

    static void promise13_strength_asAtPlace0() {
        SenderRows x = wave();
        for (int s = 0; s <= 20; s++) {
            due.is("of 2, from " + s, x.strength(s, 4, 0), 5);
            due.is("of 7, from " + s, x.strength(s, 4, 1), 3);
        }
        SenderRows one = new SenderRows();
        one.hearers(ALL);
        one.sender(17, 29);
        for (int s = 0; s <= 22; s++) due.is("of 17, from " + s, one.strength(s, 2, 0), 29);
    }

    static void promise13_strength_leastAndGreatest() {
        for (int p : new int[] {5, 31, 97}) {
            SenderRows x = new SenderRows();
            x.prime(p);
            x.sender(1, p - 1);
            x.sender(p - 1, 1);
            for (int s = 0; s <= 12; s++) {
                due.is("P - 1", x.strength(s, 4, 0), p - 1);
                due.is("1", x.strength(s, 4, 1), 1);
            }
        }
    }

    static void promise13_strength_eightSenders() {
        SenderRows x = Bounds.full();
        x.read(7, NONE);
        x.gain(0, 1);
        x.gain(23, 1);
        for (int i = 0; i < 8; i++) {
            due.is("of the shortest", x.strength(0, 16, i), 2 * i + 5);
            due.is("of the last", x.strength(8, 16, i), 2 * i + 5);
            due.is("of all", x.strength(0, 24, i), 2 * i + 5);
        }
    }

    // ---- 14: mended

    private static int mendedFirst(SenderRows x, int s, int n) {
        return x.mended(s, n, s, 0);
    }

    static void promise14_mended_startTooSmall() {
        startTooSmall(SpanBoundsTest::mendedFirst);
    }

    static void promise14_mended_startTooLarge() {
        startTooLarge(SpanBoundsTest::mendedFirst);
    }

    static void promise14_mended_lengthTooSmall() {
        lengthTooSmall(SpanBoundsTest::mendedFirst);
    }

    static void promise14_mended_lengthTooLarge() {
        lengthTooLarge(SpanBoundsTest::mendedFirst);
    }

    static void promise14_mended_notAllHearers() {
        notAllHearers(SpanBoundsTest::mendedFirst);
    }

    static void promise14_mended_noHearerAtThePlaceItself() {
        bounds.refused("lost at 11", Bounds::busy, NOT, x -> x.mended(4, 12, 11, 2));
        SenderRows x = Bounds.busy();
        x.hearers(ALL);
        x.gain(11, 2);
        due.is("a hearer with a wrong gain at 11", x.mended(4, 12, 11, 0), 3);
    }

    static void promise14_mended_placeAheadOfTheSpan() {
        // three senders of 37, at 4: 5 * 81 + 2 * 10000 + 7 = 20412
        bounds.asked("the first", Bounds::busy, 20412 % 37, x -> x.mended(4, 7, 4, 2));
        bounds.refused("one ahead", Bounds::busy, OUTSIDE, x -> x.mended(4, 7, 3, 2));
        bounds.refused("0", Bounds::busy, OUTSIDE, x -> x.mended(4, 7, 0, 2));
        bounds.refused("below 0", Bounds::busy, OUTSIDE, x -> x.mended(4, 7, -1, 2));
        bounds.refused("far below", Bounds::busy, OUTSIDE, x -> x.mended(4, 7, MIN, 2));
        bounds.refused("below 0, from 0", Bounds::full, OUTSIDE, x -> x.mended(0, 4, -1, 2));
    }

    static void promise14_mended_placeAfterTheSpan() {
        bounds.asked("the last", Bounds::busy, 3, x -> x.mended(4, 7, 10, 0));
        bounds.refused("one after", Bounds::busy, OUTSIDE, x -> x.mended(4, 7, 11, 0));
        bounds.refused("far above", Bounds::busy, OUTSIDE, x -> x.mended(4, 7, MAX, 0));
        bounds.refused("24", Bounds::full, OUTSIDE, x -> x.mended(0, 24, 24, 0));
        bounds.refused("not all hearers, and one after", Bounds::busy, OUTSIDE, x -> x.mended(4, 8, 12, 0));
        bounds.refused("not all hearers, and one ahead", Bounds::busy, OUTSIDE, x -> x.mended(4, 8, 3, 0));
    }

    static void promise14_mended_whatTooSmall() {
        bounds.asked("0", Bounds::busy, 3, x -> x.mended(4, 7, 5, 0));
        bounds.refusedAlways("-1", OUTSIDE, x -> x.mended(4, 7, 5, -1));
        bounds.refusedAlways("far below", OUTSIDE, x -> x.mended(4, 7, 5, MIN));
        bounds.refused("-1, and not all hearers", Bounds::busy, OUTSIDE, x -> x.mended(4, 8, 5, -1));
    }

    static void promise14_mended_whatTooLarge() {
        bounds.asked("1", Bounds::busy, 1, x -> x.mended(12, 8, 14, 1));
        // by 37, 3 to the 14th is 16, and 10 to the 14th as 10 squared
        bounds.asked("2", Bounds::busy, (5 * 16 + 2 * 100 + 7) % 37, x -> x.mended(12, 8, 14, 2));
        bounds.refusedAlways("3", OUTSIDE, x -> x.mended(4, 7, 5, 3));
        bounds.refusedAlways("far above", OUTSIDE, x -> x.mended(4, 7, 5, MAX));
        bounds.refused("3, and not all hearers", Bounds::busy, OUTSIDE, x -> x.mended(4, 8, 5, 3));
    }

    private static void mendedIs(String what, SenderRows x, int n, int k, int order, int many, int least) {
        due.is(what + ": order", x.mended(0, n, k, 0), order);
        due.is(what + ": how many", x.mended(0, n, k, 1), many);
        due.is(what + ": the least", x.mended(0, n, k, 2), least);
    }

    static void promise14_mended_oneRead() {
        for (int p : new int[] {5, 31, 97}) {
            mendedIs("0 of " + p, withReads(p, 0), 1, 0, 0, 1, 0);
            mendedIs("P - 1 of " + p, withReads(p, p - 1), 1, 0, 0, 1, 0);
        }
    }

    static void promise14_mended_allRestsHaveIt() {
        for (int p : new int[] {5, 31, 97}) {
            mendedIs("1 and any", withReads(p, 1, 0), 2, 1, 1, p, 0);
            mendedIs("any but 0 and 1", withReads(p, 0, 1), 2, 0, 1, p - 1, 1);
            mendedIs("0 and 0", withReads(p, 0, 3), 2, 1, 0, 1, 0);
            mendedIs("0 and 0", withReads(p, 3, 0), 2, 0, 0, 1, 0);
        }
    }

    static void promise14_mended_leastOrderIsHigh() {
        for (int n = 2; n <= 24; n++) {
            // v, 0 .. 0, 1 with v not 0 ends at n - 1; with v 0 at n
            mendedIs("the first of " + n, withReads(5, zerosAnd(n, n - 1, 1)), n, 0, n - 1, 4, 1);
        }
    }

    static void promise14_mended_greatestRest() {
        for (int p : new int[] {5, 31, 97}) {
            SenderRows x = withReads(p, 1, p - 1, 1, p - 1, 1, 0);
            mendedIs("P - 1 of " + p, x, 6, 5, 1, 1, p - 1);
            due.is("what was told by hand stays", x.heard(5), 0);
        }
    }

    static void promise14_mended_everyPlaceOfTheLongest() {
        SenderRows x = new SenderRows();
        x.prime(97);
        x.hearers(ALL);
        x.sender(5, 96);
        x.sender(96, 1);
        for (int k = 0; k < 24; k++) {
            int heard = x.heard(k);
            x.read(k, (heard + 1) % 97);
            due.is("order at " + k, x.mended(0, 24, k, 0), 2);
            due.is("how many at " + k, x.mended(0, 24, k, 1), 1);
            due.is("the least at " + k, x.mended(0, 24, k, 2), heard);
            x.read(k, NONE);
        }
    }

    static void promise14_mended_takesTheReadForLost() {
        for (int told = 0; told < 7; told++) {
            // amid 1, ?, 4: 2 and 5, whose squares are 4
            mendedIs("told " + told, withReads(7, 1, told, 4), 3, 1, 1, 2, 2);
        }
    }

    // ---- 15: tune

    private static SenderRows threeHeard() {
        SenderRows x = Bounds.busy();
        x.read(1, 1);
        return x;
    }

    static void promise15_tune_unknown() {
        due.holds("the first", threeHeard().tune(0) >= 0);
        due.holds("the last", threeHeard().tune(2) >= 0);
        bounds.refused("one more", SpanBoundsTest::threeHeard, UNKNOWN, x -> x.tune(3));
        bounds.refused("-1", SpanBoundsTest::threeHeard, UNKNOWN, x -> x.tune(-1));
        bounds.refusedAlways("far below", UNKNOWN, x -> x.tune(MIN));
        bounds.refusedAlways("far above", UNKNOWN, x -> x.tune(MAX));
        bounds.refusedAlways("the ninth", UNKNOWN, x -> x.tune(8));
        bounds.refused("no sender", SenderRows::new, UNKNOWN, x -> x.tune(0));
        SenderRows x = threeHeard();
        x.hearers(0b11);
        x.drop();
        due.is("dropped", x.tune(2), UNKNOWN);
        due.holds("not dropped", x.tune(1) >= 0);
    }

    static void promise15_tune_someReadIs0() {
        bounds.refused("by hand at 1", Bounds::busy, NOT, x -> x.tune(0));
        bounds.refused("by hand at 1", Bounds::busy, NOT, x -> x.tune(2));
        bounds.refused("unknown ahead of not", Bounds::busy, UNKNOWN, x -> x.tune(3));
        for (int k = 0; k < 24; k++) {
            SenderRows x = new SenderRows();
            x.hearers(ALL);
            x.sender(1, 1);
            x.gain(k, 2);
            x.gain(23 - k, 2);
            x.read(k, 0);
            due.is("0 at " + k, x.tune(0), NOT);
            due.is("gain at " + k, x.gain(k, 2), 2);
            due.is("gain at the other end", x.gain(23 - k, 2), 2);
            x.read(k, 1);
            due.is("1 at " + k, x.tune(0), 1);
            due.is("gain at " + k, x.gain(k, 2), 1);
        }
    }

    private static SenderRows cancelled() {
        SenderRows x = new SenderRows();
        x.sender(1, 20);
        x.sender(2, 11);
        x.gain(0, 5);
        x.gain(1, 5);
        return x;
    }

    static void promise15_tune_waveOf0() {
        // 20 and 11 at 0, 20 and 22 at 1; 11 times 2^5 is 11 again, at 5, 10, 15
        bounds.refused("31 comes to 0", SpanBoundsTest::cancelled, NOT, x -> x.tune(0));
        SenderRows x = cancelled();
        x.hearers(0b11110);
        due.holds("no hearer where 0 comes", x.tune(0) >= 0);
    }

    static void promise15_tune_read0WithoutHearer() {
        SenderRows x = new SenderRows();
        x.sender(1, 1);
        x.read(15, 0);
        due.is("the last with a hearer", x.tune(0), NOT);
        x.read(15, NONE);
        x.read(16, 0);
        due.is("the first without", x.tune(0), 0);
        x.hearers(0x1FFFF);
        due.is("a hearer comes to it", x.tune(0), NOT);
    }

    static void promise15_tune_noHearers() {
        SenderRows x = Bounds.busy();
        x.hearers(0);
        due.is("nothing to change", x.tune(0), 0);
        due.is("gain stays", x.gain(0, 1), 4);
        due.is("unknown for all that", x.tune(3), UNKNOWN);
    }

    static void promise15_tune_howManyChanged() {
        SenderRows x = new SenderRows();
        x.hearers(ALL);
        x.sender(3, 4);
        due.is("none", x.tune(0), 0);
        for (int k = 0; k < 24; k++) x.gain(k, k + 2);
        due.is("none: gains are what makes the reads", x.tune(0), 0);
        x.read(6, 5);
        due.is("one", x.tune(0), 1);
        due.is("none again", x.tune(0), 0);
        for (int k = 0; k < 24; k++) x.read(k, 1);
        for (int k = 0; k < 24; k++) x.gain(k, 1);
        x.drop();
        x.sender(1, 30);
        due.is("all", x.tune(0), 24);
        for (int k = 0; k < 24; k++) due.is("the greatest gain, at " + k, x.gain(k, 1), 30);
    }

    static void promise15_tune_byReadsAsTheyAre() {
        SenderRows x = new SenderRows();
        x.hearers(0b1000_0000_0000_0000_0000_0001);
        x.sender(2, 3);
        x.sender(30, 1);
        // at 0: 4; at 23: 3 * 8 - 1 = 23
        due.is("by the second", x.tune(1), 2);
        due.is("4 by 1", x.heard(0), 4 * 4 % 31);
        due.is("23 by -1", x.heard(23), 23 * 8 % 31);
        due.is("gain at 0", x.gain(0, 1), 4);
        due.is("gain at 23", x.gain(23, 1), 8);
        due.is("no hearer, no change", x.gain(22, 1), 1);
    }
}
