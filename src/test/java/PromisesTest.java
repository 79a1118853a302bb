/**
 * Each promise of the document by its number: ordinary calls reckoned by hand, the edges that the
 * document names, each refusal, and that what is refused changes nothing.
 */
public final class PromisesTest {
    private static final int NONE = SenderRows.NONE;
    private static final int UNKNOWN = SenderRows.UNKNOWN;
    private static final int OUTSIDE = SenderRows.OUTSIDE;
    private static final int NOT = SenderRows.NOT;
    private static final int FULL = SenderRows.FULL;
    private static final int MIN = Integer.MIN_VALUE;
    private static final int MAX = Integer.MAX_VALUE;

    private static final Due due = new Due();

    public static void main(String[] args) {
        newObject();
        prime();
        hearers();
        sender();
        drop();
        gain();
        read();
        heard();
        count();
        order();
        law();
        slant();
        strength();
        mended();
        mendedTies();
        tune();
        twin();
        weight();
        best();
        station();
        look();
        crossing();
        crossingEdges();
        borne();
        borneAtTheBounds();
        most();
        due.end();
    }

    private static SenderRows withReads(int p, int... reads) {
        SenderRows x = new SenderRows();
        x.prime(p);
        x.hearers((1 << reads.length) - 1);
        for (int k = 0; k < reads.length; k++) x.read(k, reads[k]);
        return x;
    }

    private static void newObject() {
        SenderRows x = new SenderRows();
        int[] wanted = {31, 16, 0, 0, 0, 15, 0, 0, 15, 16};
        for (int what = 0; what < 10; what++) due.is("1 count " + what, x.count(what), wanted[what]);
        for (int k = 0; k < 16; k++) due.is("1 heard", x.heard(k), 0);
        for (int k = 16; k < 24; k++) due.is("1 heard beyond", x.heard(k), NOT);
        for (int k = 0; k < 24; k++) due.is("1 gain", x.gain(k, 2), 1);
        due.is("1 no station", x.look(0, 1, 1), UNKNOWN);
        due.is("1 no crossing", x.most(0, 0), NONE);
        SenderRows other = new SenderRows();
        x.sender(3, 3);
        due.is("1 objects share nothing", other.count(2), 0);
        due.is("1 objects share nothing", other.gain(0, 5), 1);
    }

    private static void prime() {
        SenderRows x = new SenderRows();
        x.hearers(7);
        x.sender(2, 3);
        x.gain(1, 4);
        x.read(2, 9);
        x.station(0, 0, 1, 0);
        int[] outside = {4, 3, 2, 0, -5, 1, 6, 9, 25, 49, 77, 91, 95, 98, 101, 103, MIN, MAX};
        for (int p : outside) due.is("2 prime " + p, x.prime(p), OUTSIDE);
        due.is("2 refused: P", x.count(0), 31);
        due.is("2 refused: senders", x.count(2), 1);
        due.is("2 refused: reads", x.count(3), 1);
        due.is("2 refused: heard", x.heard(1), 24);
        due.is("2 prime 97", x.prime(97), 31);
        due.is("2 senders go", x.count(2), 0);
        due.is("2 reads go", x.count(3), 0);
        due.is("2 gains go", x.gain(1, 1), 1);
        due.is("2 nothing comes", x.heard(1), 0);
        due.is("2 hearers stay", x.count(1), 3);
        due.is("2 stations stay", x.count(4), 1);
        x.sender(5, 5);
        due.is("2 the same again", x.prime(97), 97);
        due.is("2 they go then too", x.count(2), 0);
        int before = 97;
        int[] primes = {5, 7, 11, 13, 17, 19, 23, 29, 31, 37, 41, 43, 47, 53, 59, 61, 67, 71, 73, 79, 83, 89, 97};
        for (int p : primes) {
            due.is("2 prime " + p, x.prime(p), before);
            before = p;
        }
    }

    private static void hearers() {
        SenderRows x = new SenderRows();
        x.gain(3, 6);
        x.read(2, 5);
        due.is("3 none", x.hearers(0), 0);
        due.is("3 all", x.hearers(16777215), 24);
        due.is("3 too many", x.hearers(16777216), OUTSIDE);
        due.is("3 below", x.hearers(-1), OUTSIDE);
        due.is("3 far below", x.hearers(MIN), OUTSIDE);
        due.is("3 far above", x.hearers(MAX), OUTSIDE);
        due.is("3 refused", x.count(1), 24);
        due.is("3 some", x.hearers(0b101100), 3);
        due.is("3 reads stay", x.heard(2), 5);
        due.is("3 gains stay", x.gain(3, 1), 6);
        due.is("3 the last place", x.hearers(1 << 23), 1);
        due.is("3 heard there", x.heard(23), 0);
    }

    private static void sender() {
        SenderRows x = new SenderRows();
        int[][] outside = {{0, 1}, {31, 1}, {1, 0}, {1, 31}, {-1, 1}, {1, -1}, {MIN, 1}, {1, MAX}};
        for (int[] o : outside) due.is("4 outside", x.sender(o[0], o[1]), OUTSIDE);
        for (int i = 0; i < 8; i++) due.is("4 sender", x.sender(i + 1, 30), i);
        due.is("4 alike ahead of full", x.sender(8, 2), NOT);
        due.is("4 full", x.sender(9, 2), FULL);
        due.is("4 outside ahead of all", x.sender(8, 31), OUTSIDE);
        due.is("4 refused", x.count(2), 8);
        // 30 (1 + .. + 8) is -36
        due.is("4 what comes", x.heard(1), 26);
        due.is("4 refused: nothing comes of it", x.heard(0), 23);
        SenderRows y = new SenderRows();
        due.is("4 greatest slant and strength", y.sender(30, 30), 0);
        due.is("4 its wave", y.heard(1), 1);
    }

    private static void drop() {
        SenderRows x = new SenderRows();
        due.is("5 none", x.drop(), NOT);
        x.sender(2, 3);
        x.sender(5, 7);
        due.is("5 both", x.heard(1), 10);
        due.is("5 the last", x.drop(), 1);
        due.is("5 the first is left", x.heard(1), 6);
        due.is("5 its slant is free", x.sender(5, 1), 1);
        due.is("5 the first one's is not", x.sender(2, 1), NOT);
        x.drop();
        due.is("5 down to none", x.drop(), 0);
        due.is("5 none", x.drop(), NOT);
        due.is("5 nothing comes", x.heard(1), 0);
    }

    private static void gain() {
        SenderRows x = new SenderRows();
        x.sender(1, 10);
        due.is("6 gain", x.gain(0, 30), 1);
        due.is("6 heard", x.heard(0), 21);
        due.is("6 again", x.gain(0, 2), 30);
        due.is("6 a place without a hearer", x.gain(23, 7), 1);
        due.is("6 and again", x.gain(23, 7), 7);
        int[][] outside = {{-1, 1}, {24, 1}, {0, 0}, {0, 31}, {0, -1}, {MIN, 1}, {MAX, 1}, {0, MAX}};
        for (int[] o : outside) due.is("6 outside", x.gain(o[0], o[1]), OUTSIDE);
        due.is("6 refused", x.heard(0), 20);
    }

    private static void read() {
        SenderRows x = new SenderRows();
        x.sender(2, 1);
        x.gain(3, 3);
        due.is("7 by hand, without the gain", x.read(3, 5), 5);
        due.is("7 heard", x.heard(3), 5);
        due.is("7 a rest 0 is a read", x.read(3, 0), 0);
        due.is("7 counted once", x.count(3), 1);
        due.is("7 greatest", x.read(3, 30), 30);
        x.gain(3, 2);
        x.sender(1, 1);
        due.is("7 it stays", x.heard(3), 30);
        due.is("7 taken back", x.read(3, NONE), 18);
        due.is("7 and counted no more", x.count(3), 0);
        due.is("7 what was not told is taken back", x.read(0, NONE), 2);
        due.is("7 without a hearer", x.read(20, 4), 4);
        due.is("7 counted too", x.count(3), 1);
        due.is("7 not heard, for all that", x.heard(20), NOT);
        due.is("7 taken back there: 2 to the 20th and 1", x.read(20, NONE), 2);
        int[][] outside = {{-1, 1}, {24, 1}, {0, -2}, {0, 31}, {24, NONE}, {0, MIN}, {0, MAX}, {MIN, 0}};
        for (int[] o : outside) due.is("7 outside", x.read(o[0], o[1]), OUTSIDE);
        due.is("7 refused", x.count(3), 0);
    }

    private static void heard() {
        SenderRows x = new SenderRows();
        x.hearers(0b1010);
        x.sender(3, 5);
        x.sender(10, 2);
        x.gain(3, 4);
        due.is("8 at 1", x.heard(1), 4);
        // 5 * 27 + 2 * 1000 = 2135 is 27, times 4 is 15
        due.is("8 at 3", x.heard(3), 15);
        due.is("8 no hearer", x.heard(0), NOT);
        due.is("8 no hearer", x.heard(2), NOT);
        for (int k : new int[] {-1, 24, MIN, MAX}) due.is("8 outside", x.heard(k), OUTSIDE);
        x.hearers(1 << 23);
        // 3 to the 23rd is 11, 10 to the 23rd 14 (10 to the 15th is 1)
        due.is("8 at 23", x.heard(23), (5 * 11 + 2 * 14) % 31);
    }

    private static void count() {
        SenderRows x = new SenderRows();
        x.hearers(0b100000000010011);
        int[] wanted = {31, 4, 0, 0, 0, 1, 8, 0, 14, 7};
        for (int what = 0; what < 10; what++) due.is("9 count " + what, x.count(what), wanted[what]);
        x.hearers(1 << 9);
        due.is("9 one hearer: reach", x.count(5), 0);
        due.is("9 one hearer: holes", x.count(6), 0);
        due.is("9 one hearer: twins", x.count(7), 435);
        due.is("9 one hearer: greatest", x.count(8), 0);
        due.is("9 one hearer: differences", x.count(9), 1);
        x.hearers(0);
        int[] without = {31, 0, 0, 0, 0, NONE, 0, 435, NONE, 0};
        for (int what = 0; what < 10; what++) due.is("9 none: count " + what, x.count(what), without[what]);
        x.hearers(1 | 1 << 23);
        due.is("9 far apart: reach", x.count(5), 0);
        due.is("9 far apart: holes", x.count(6), 22);
        due.is("9 far apart: greatest", x.count(8), 23);
        for (int what : new int[] {-1, 10, MIN, MAX}) due.is("9 outside", x.count(what), OUTSIDE);
    }

    private static void order() {
        SenderRows x = withReads(31, 1, 1, 2, 3, 5, 8, 13, 21);
        due.is("10 Fibonacci", x.order(0, 8), 2);
        due.is("10 one read", x.order(0, 1), 1);
        due.is("10 alike", x.order(0, 2), 1);
        due.is("10 three", x.order(0, 3), 2);
        due.is("10 to the last", x.order(7, 1), 1);
        due.is("10 a hole", x.order(7, 2), NOT);
        due.is("10 no hearer at all", x.order(23, 1), NOT);
        int[][] outside = {{-1, 1}, {24, 1}, {24, 0}, {0, 0}, {0, 25}, {23, 2}, {5, 20}, {0, -1}, {MIN, 1}, {0, MAX}, {MAX, MAX}};
        for (int[] o : outside) due.is("10 outside", x.order(o[0], o[1]), OUTSIDE);
        due.is("10 all 0", withReads(7, 0, 0, 0).order(0, 3), 0);
        due.is("10 one read 0", withReads(7, 0).order(0, 1), 0);
        due.is("10 n", withReads(7, 0, 0, 0, 5).order(0, 4), 4);
        due.is("10 all after the first 0", withReads(7, 3, 0, 0, 0).order(0, 4), 1);
        due.is("10 two ahead", withReads(7, 0, 1, 0, 1, 0, 1).order(0, 6), 2);
        SenderRows all = new SenderRows();
        all.hearers(16777215);
        for (int z = 1; z <= 8; z++) all.sender(z, z);
        due.is("10 eight senders", all.order(0, 24), 8);
        due.is("10 eight senders, short", all.order(3, 16), 8);
        all.hearers(0xFFFFFF & ~(1 << 12));
        due.is("10 a hole amid", all.order(3, 16), NOT);
        due.is("10 up to the hole", all.order(0, 12), 6);
        due.is("10 from the hole on", all.order(13, 11), 6);
    }

    private static void law() {
        SenderRows x = withReads(31, 1, 1, 2, 3, 5, 8, 13, 21);
        due.is("11 one", x.law(0, 8, 0), 1);
        due.is("11 c1", x.law(0, 8, 1), 1);
        due.is("11 c2", x.law(0, 8, 2), 1);
        due.is("11 beyond", x.law(0, 8, 3), OUTSIDE);
        due.is("11 below", x.law(0, 8, -1), OUTSIDE);
        due.is("11 just one", x.law(0, 4, 0), 1);
        due.is("11 just one: c2", x.law(0, 4, 2), 1);
        due.is("11 not one", x.law(0, 3, 0), 0);
        due.is("11 not one: c1", x.law(0, 3, 1), NOT);
        due.is("11 not one: c2", x.law(0, 3, 2), NOT);
        due.is("11 not one, and outside", x.law(0, 3, 3), OUTSIDE);
        due.is("11 a hole", x.law(0, 9, 0), NOT);
        due.is("11 a hole, and outside", x.law(0, 9, -1), OUTSIDE);
        due.is("11 outside", x.law(0, 25, 0), OUTSIDE);
        due.is("11 outside", x.law(24, 1, 0), OUTSIDE);
        due.is("11 outside", x.law(0, 8, MAX), OUTSIDE);
        SenderRows zero = withReads(7, 0, 0);
        due.is("11 nothing: one", zero.law(0, 2, 0), 1);
        due.is("11 nothing: no c1", zero.law(0, 2, 1), OUTSIDE);
        SenderRows dies = withReads(7, 3, 0, 0, 0);
        due.is("11 c1 may be 0", dies.law(0, 4, 1), 0);
        // each is 3 times the one ahead and 4 times that two ahead: 6 + 4, 30 + 8, 15 + 40, 0 + 20
        SenderRows two = withReads(11, 1, 2, 10, 5, 0, 9);
        due.is("11 another: c1", two.law(0, 6, 1), 3);
        due.is("11 another: c2", two.law(0, 6, 2), 4);
    }

    private static void slant() {
        SenderRows x = new SenderRows();
        x.sender(30, 4);
        x.sender(1, 9);
        x.sender(17, 2);
        due.is("12 how many", x.slant(0, 6, NONE), 3);
        due.is("12 by size", x.slant(0, 6, 0), 1);
        due.is("12 by size", x.slant(0, 6, 1), 17);
        due.is("12 by size", x.slant(4, 12, 2), 30);
        due.is("12 none such", x.slant(0, 6, 3), NONE);
        due.is("12 none such", x.slant(0, 6, MAX), NONE);
        due.is("12 none such", x.slant(0, 6, -2), NONE);
        due.is("12 not one", x.slant(0, 5, NONE), NOT);
        due.is("12 a hole", x.slant(10, 7, NONE), NOT);
        due.is("12 outside", x.slant(10, 15, NONE), OUTSIDE);
        due.is("12 outside", x.slant(-1, 4, 0), OUTSIDE);
        due.is("12 outside", x.slant(0, 0, 0), OUTSIDE);
        // z to the 2nd as -1 has no z among the rests of 7
        due.is("12 none at all", withReads(7, 1, 0, 6, 0).slant(0, 4, NONE), 0);
        due.is("12 none at all", withReads(7, 1, 0, 6, 0).slant(0, 4, 0), NONE);
        // z to the 2nd as 2 z less 1: 1 alone
        due.is("12 one twice", withReads(7, 0, 1, 2, 3).slant(0, 4, NONE), 1);
        due.is("12 one twice", withReads(7, 0, 1, 2, 3).slant(0, 4, 0), 1);
        // z as 0: 0 is no slant
        due.is("12 from 1 on", withReads(7, 3, 0, 0).slant(0, 3, NONE), 0);
        due.is("12 order 0", withReads(7, 0, 0, 0).slant(0, 3, NONE), 0);
        due.is("12 order 0", withReads(7, 0, 0, 0).slant(0, 3, 0), NONE);
    }

    private static void strength() {
        SenderRows x = new SenderRows();
        x.hearers(16777215);
        int[] slants = {2, 3, 7, 11, 20, 21, 29, 30};
        for (int i = 7; i >= 0; i--) x.sender(slants[i], i + 13);
        for (int i = 0; i < 8; i++) {
            due.is("13 from 0", x.strength(0, 24, i), i + 13);
            due.is("13 as at place 0", x.strength(8, 16, i), i + 13);
        }
        due.is("13 none such", x.strength(0, 24, 8), NONE);
        due.is("13 none such", x.strength(0, 24, NONE), NONE);
        due.is("13 none such", x.strength(0, 24, MIN), NONE);
        due.is("13 not one", x.strength(0, 15, 0), NOT);
        due.is("13 outside", x.strength(9, 16, 0), OUTSIDE);
        x.hearers(0xFF);
        due.is("13 a hole", x.strength(0, 9, 0), NOT);
        due.is("13 not full", withReads(7, 0, 1, 2, 3).strength(0, 4, 0), NONE);
        due.is("13 order 0", withReads(7, 0, 0, 0).strength(0, 3, 0), NONE);
        due.is("13 not full, one slant of two", withReads(7, 3, 2, 2, 2).strength(0, 4, 0), NONE);
        SenderRows loud = new SenderRows();
        loud.sender(4, 3);
        for (int k = 0; k < 16; k++) loud.gain(k, 5);
        due.is("13 gains count", loud.strength(0, 8, 0), 15);
    }

    private static void mended() {
        SenderRows x = new SenderRows();
        x.sender(2, 1);
        x.sender(7, 1);
        x.read(4, 0);
        due.is("14 least order", x.mended(0, 10, 4, 0), 2);
        due.is("14 how many", x.mended(0, 10, 4, 1), 1);
        due.is("14 the least", x.mended(0, 10, 4, 2), 30);
        due.is("14 nothing changed", x.heard(4), 0);
        due.is("14 nothing changed", x.order(0, 10), 5);
        due.is("14 the first", x.mended(5, 8, 5, 2), (32 + 7 * 7 * 7 * 7 * 7) % 31);
        due.is("14 the last", x.mended(5, 11, 15, 0), 2);
        int[][] outside = {{0, 10, -1, 0}, {0, 10, 10, 0}, {3, 4, 2, 0}, {3, 4, 7, 0}, {0, 10, 4, -1}, {0, 10, 4, 3},
            {-1, 4, 0, 0}, {24, 1, 24, 0}, {0, 25, 3, 0}, {0, 0, 0, 0}, {0, 10, MIN, 0}, {0, 10, MAX, 0}, {0, 17, 17, 0}, {0, 17, 3, 3}};
        for (int[] o : outside) due.is("14 outside", x.mended(o[0], o[1], o[2], o[3]), OUTSIDE);
        due.is("14 a hole", x.mended(0, 17, 3, 0), NOT);
        x.hearers(0xFFFF & ~16);
        due.is("14 no hearer at the place itself", x.mended(0, 10, 4, 0), NOT);
    }

    private static void mendedTies() {
        SenderRows one = withReads(5, 3);
        due.is("14 one read: order 0", one.mended(0, 1, 0, 0), 0);
        due.is("14 one read: by 0", one.mended(0, 1, 0, 2), 0);
        due.is("14 one read: alone", one.mended(0, 1, 0, 1), 1);
        SenderRows two = withReads(5, 3, 2);
        due.is("14 two reads: any but 0", two.mended(0, 2, 0, 1), 4);
        due.is("14 two reads: the least", two.mended(0, 2, 0, 2), 1);
        due.is("14 two reads: any behind", two.mended(0, 2, 1, 1), 5);
        due.is("14 two reads: the least is 0", two.mended(0, 2, 1, 2), 0);
        SenderRows late = withReads(5, 0, 0, 0, 1);
        due.is("14 mended to naught", late.mended(0, 4, 3, 0), 0);
        due.is("14 mended to naught", late.mended(0, 4, 3, 1), 1);
        due.is("14 the 0 is lost", withReads(7, 0, 1).mended(0, 2, 0, 0), 1);
        // amid 1, ?, 4: 2 and -2 go on by a law of length 1
        SenderRows amid = withReads(7, 1, 0, 4);
        due.is("14 amid: order", amid.mended(0, 3, 1, 0), 1);
        due.is("14 amid: how many", amid.mended(0, 3, 1, 1), 2);
        due.is("14 amid: the least", amid.mended(0, 3, 1, 2), 2);
    }

    private static void tune() {
        SenderRows x = new SenderRows();
        x.hearers(0b1011);
        due.is("15 no sender", x.tune(0), UNKNOWN);
        x.sender(2, 3);
        x.gain(0, 4);
        x.gain(2, 9);
        due.is("15 all is right as it is", x.tune(0), 0);
        due.is("15 by what is so", x.gain(0, 4), 4);
        x.sender(5, 1);
        due.is("15 by both", x.heard(1), 11);
        // READS 16, 11 and 24 + 125 = 25 by 3, 6 and 24
        due.is("15 how many changed", x.tune(0), 3);
        due.is("15 gain at 0", x.gain(0, 1), 16 * 21 % 31);
        due.is("15 gain at 1", x.gain(1, 1), 11 * 26 % 31);
        due.is("15 gain at 3", x.gain(3, 1), 25 * 22 % 31);
        due.is("15 no hearer, no change", x.gain(2, 1), 9);
        for (int i : new int[] {-1, 2, MIN, MAX}) due.is("15 unknown", x.tune(i), UNKNOWN);
        x.read(3, 0);
        due.is("15 a read of 0", x.tune(1), NOT);
        due.is("15 refused", x.gain(0, 1), 1);
        due.is("15 refused", x.gain(1, 1), 1);
        x.read(2, 0);
        x.read(3, 1);
        due.is("15 a read of 0 where no hearer is", x.tune(1), 2);
        due.is("15 a read by hand: 1 by 125", x.gain(3, 1), 1);
        due.is("15 by the second: 4 by 1", x.gain(0, 1), 4);
        due.is("15 by the second: 11 by 5", x.gain(1, 1), 11 * 25 % 31);
        x.hearers(0);
        due.is("15 no hearers", x.tune(0), 0);
        SenderRows y = new SenderRows();
        y.sender(1, 1);
        y.hearers(16777215);
        for (int k = 0; k < 24; k++) {
            y.read(k, 0);
            due.is("15 a read of 0 at " + k, y.tune(0), NOT);
            y.read(k, NONE);
        }
        y.drop();
        due.is("15 dropped", y.tune(0), UNKNOWN);
    }

    private static void twin() {
        SenderRows x = new SenderRows();
        x.prime(7);
        x.hearers(0b1001000);
        // cubes 1, 1, 6, 1, 6, 6
        int[][] twins = {{1, 2}, {1, 4}, {2, 4}, {3, 5}, {3, 6}, {5, 6}};
        due.is("16 how many", x.count(7), 6);
        for (int i = 0; i < 6; i++) {
            due.is("16 lesser", x.twin(i, 0), twins[i][0]);
            due.is("16 greater", x.twin(i, 1), twins[i][1]);
        }
        for (int i : new int[] {6, -1, MIN, MAX}) due.is("16 none such", x.twin(i, 0), NONE);
        for (int what : new int[] {-1, 2, MIN, MAX}) due.is("16 outside", x.twin(0, what), OUTSIDE);
        x.hearers(0b101001000);
        due.is("16 3 and 5 part all", x.count(7), 0);
        x.hearers(0b1000001000);
        due.is("16 6 apart: all", x.count(7), 15);
        x.hearers(0b10001010);
        due.is("16 2 apart: squares", x.count(7), 3);
        due.is("16 2 apart: 3 and 4", x.twin(2, 0), 3);
        due.is("16 2 apart: 3 and 4", x.twin(2, 1), 4);
        x.hearers(0);
        due.is("16 without hearers: all", x.twin(14, 0), 5);
        due.is("16 without hearers: all", x.twin(14, 1), 6);
        x.hearers(1 << 23);
        due.is("16 with one hearer: all", x.twin(14, 1), 6);
        x.prime(97);
        due.is("16 of 97", x.count(7), 96 * 95 / 2);
        due.is("16 of 97", x.twin(4559, 0), 95);
        due.is("16 of 97", x.twin(4560, 0), NONE);
    }

    private static void weight() {
        SenderRows x = new SenderRows();
        x.hearers(0b1010011);
        int[] wanted = {4, 1, 1, 1, 1, 1, 1, 0, 0};
        for (int d = 0; d < wanted.length; d++) due.is("17 weight " + d, x.weight(d), wanted[d]);
        for (int d : new int[] {-1, 24, MIN, MAX}) due.is("17 outside", x.weight(d), OUTSIDE);
        x.hearers(16777215);
        for (int d = 0; d < 24; d++) due.is("17 all: " + d, x.weight(d), 24 - d);
        x.hearers(0);
        for (int d = 0; d < 24; d++) due.is("17 none: " + d, x.weight(d), 0);
    }

    private static void best() {
        SenderRows x = new SenderRows();
        // 23 less 0 to 15 is 8 to 23
        due.is("18 0 to 15", x.best(0), 23);
        due.is("18 0 to 15: reach", x.best(1), 23);
        for (int what : new int[] {-1, 2, MIN, MAX}) due.is("18 outside", x.best(what), OUTSIDE);
        due.is("18 nothing changed", x.count(1), 16);
        int[][] sets = {{0, 0, 0}, {1, 1, 1}, {1 << 5, 4, 1}, {0b11, 3, 3}, {0b101, 3, 3}, {0b1001, 1, 3},
            {0xFFFFFF & ~(1 << 7), 7, 23}, {0xFFFFFF, NONE, NONE}, {1 << 23, 22, 1}, {1 | 1 << 23, 1, 1}};
        for (int[] set : sets) {
            x.hearers(set[0]);
            due.is("18 place for " + set[0], x.best(0), set[1]);
            due.is("18 reach for " + set[0], x.best(1), set[2]);
        }
        due.is("18 all: outside all the same", x.best(2), OUTSIDE);
    }

    private static SenderRows withStations(int[]... stations) {
        SenderRows x = new SenderRows();
        for (int[] s : stations) x.station(s[0], s[1], s[2], s[3]);
        return x;
    }

    private static void crosses(String name, SenderRows x, int i, int j, long... parts) {
        for (int what = 0; what < 4; what++) {
            due.is(name, x.crossing(i, j, what), parts[what]);
            due.is(name + ", turned round", x.crossing(j, i, what), parts[what]);
        }
    }

    private static void crossesNot(String name, SenderRows x, int i, int j) {
        crosses(name, x, i, j, NOT, NOT, NOT, NOT);
        due.is(name + ": borne", x.borne(i, j, 200), NOT);
    }

    private static final int[][] BAD_WAYS = {{0, 0}, {101, 0}, {-101, 1}, {0, 101}, {1, -101}, {MIN, 1}, {1, MAX}};

    private static void station() {
        SenderRows x = new SenderRows();
        int[][] bad = {{101, 0}, {-101, 0}, {0, 101}, {0, -101}, {MIN, 0}, {0, MAX}};
        for (int[] b : bad) due.is("19 outside", x.station(b[0], b[1], 1, 1), OUTSIDE);
        for (int[] b : BAD_WAYS) due.is("19 outside", x.station(0, 0, b[0], b[1]), OUTSIDE);
        due.is("19 refused", x.count(4), 0);
        due.is("19 at the bounds", x.station(100, -100, -100, 100), 0);
        due.is("19 at the bounds", x.station(-100, 100, 0, -100), 1);
        due.is("19 the same again", x.station(-100, 100, 0, -100), 2);
        for (int i = 3; i < 6; i++) due.is("19 number", x.station(i, i, 1, 0), i);
        due.is("19 full", x.station(0, 0, 1, 1), FULL);
        due.is("19 outside ahead of full", x.station(0, 0, 0, 0), OUTSIDE);
        due.is("19 counted", x.count(4), 6);
    }

    private static void look() {
        SenderRows x = withStations(new int[] {-3, 0, 1, 0}, new int[] {0, -4, 0, 1});
        crosses("20 as it was", x, 0, 1, 0, 1, 0, 1);
        due.is("20 another way", x.look(0, 3, 3), 1);
        crosses("20 another way", x, 0, 1, 0, 1, 3, 1);
        for (int i : new int[] {-1, 2, MIN, MAX}) due.is("20 unknown", x.look(i, 1, 1), UNKNOWN);
        for (int[] b : BAD_WAYS) {
            due.is("20 outside", x.look(0, b[0], b[1]), OUTSIDE);
            due.is("20 unknown ahead of outside", x.look(2, b[0], b[1]), UNKNOWN);
        }
        crosses("20 refused", x, 0, 1, 0, 1, 3, 1);
        due.is("20 at the bounds", x.look(0, 100, -100), 1);
        crosses("20 at the bounds", x, 0, 1, 0, 1, -3, 1);
    }

    private static void crossing() {
        SenderRows x = withStations(new int[] {0, 0, 1, 2}, new int[] {5, 0, -1, 1}, new int[] {0, 0, -2, -4}, new int[] {-5, 0, 3, -3});
        crosses("21 fractions", x, 0, 1, 5, 3, 10, 3);
        crosses("21 fractions below 0", x, 2, 3, -5, 3, -10, 3);
        crossesNot("21 behind one", x, 0, 3);
        crossesNot("21 behind the other", x, 2, 1);
        crossesNot("21 along one another, from one place", x, 0, 2);
        crossesNot("21 with itself", x, 1, 1);
        crossesNot("21 along one another", x, 1, 3);
        for (int i : new int[] {-1, 4, MIN, MAX}) {
            due.is("21 unknown", x.crossing(i, 0, 0), UNKNOWN);
            due.is("21 unknown", x.crossing(0, i, 0), UNKNOWN);
            due.is("21 unknown ahead of outside", x.crossing(i, i, 4), UNKNOWN);
        }
        for (int what : new int[] {-1, 4, MIN, MAX}) {
            due.is("21 outside", x.crossing(0, 1, what), OUTSIDE);
            due.is("21 outside ahead of not", x.crossing(0, 0, what), OUTSIDE);
            due.is("21 outside ahead of not", x.crossing(0, 2, what), OUTSIDE);
        }
    }

    private static void crossingEdges() {
        SenderRows x = withStations(new int[] {7, -2, 1, 0}, new int[] {7, -2, 0, 1}, new int[] {7, 5, 0, -1}, new int[] {20, -2, -6, 4});
        crosses("21 both from there", x, 0, 1, 7, 1, -2, 1);
        crosses("21 where one stands", x, 0, 2, 7, 1, -2, 1);
        crosses("21 where the other stands", x, 0, 3, 20, 1, -2, 1);
        crosses("21 by least terms in each", x, 1, 3, 7, 1, 20, 3);
        crossesNot("21 face to face", x, 1, 2);
        SenderRows far = withStations(new int[] {100, -100, 100, 99}, new int[] {-100, 100, 99, 98});
        crosses("21 far away", far, 0, 1, 3940100, 1, 3900500, 1);
        far.look(0, -100, -99);
        crossesNot("21 far away, behind", far, 0, 1);
        SenderRows odd = withStations(new int[] {0, 0, 97, 89}, new int[] {0, 1, 83, 73});
        // 97 * 73 less 83 * 89 is -306; the first goes 83 / 306 of its way
        crosses("21 long fractions", odd, 0, 1, 8051, 306, 7387, 306);
    }

    private static void borne() {
        SenderRows x = withStations(new int[] {-3, 0, 1, 0}, new int[] {0, -4, 0, 1});
        due.is("22 no others", x.borne(0, 1, 200), 0);
        x.station(-10, 5, 1, 0);
        due.is("22 too narrow", x.borne(0, 1, 4), 0);
        due.is("22 just so", x.borne(0, 1, 5), 1);
        due.is("22 turned round", x.borne(1, 0, 5), 1);
        x.station(5, 0, -3, 4);
        due.is("22 a long way counts as none: 3", x.borne(0, 1, 3), 0);
        due.is("22 a long way counts as none: 4", x.borne(0, 1, 4), 1);
        due.is("22 both", x.borne(0, 1, 5), 2);
        x.station(0, 0, -1, -1);
        due.is("22 from there", x.borne(0, 1, 0), 1);
        due.is("22 all", x.borne(0, 1, 200), 3);
        for (int i : new int[] {-1, 5, MIN, MAX}) {
            due.is("22 unknown", x.borne(i, 0, 0), UNKNOWN);
            due.is("22 unknown", x.borne(0, i, 0), UNKNOWN);
            due.is("22 unknown ahead of outside", x.borne(i, i, -1), UNKNOWN);
        }
        for (int width : new int[] {-1, 201, MIN, MAX}) {
            due.is("22 outside", x.borne(0, 1, width), OUTSIDE);
            due.is("22 outside ahead of not", x.borne(0, 0, width), OUTSIDE);
        }
        due.is("22 with itself", x.borne(0, 0, 0), NOT);
        x.look(0, -1, 0);
        due.is("22 no crossing", x.borne(0, 1, 0), NOT);
    }

    private static void borneAtTheBounds() {
        SenderRows x = withStations(new int[] {-3, 0, 1, 0}, new int[] {0, -4, 0, 1}, new int[] {0, 7, 1, 0});
        due.is("22 abeam", x.borne(0, 1, 7), 1);
        due.is("22 abeam, too narrow", x.borne(0, 1, 6), 0);
        x.look(2, 100, 1);
        due.is("22 a little behind", x.borne(0, 1, 200), 0);
        x.look(2, 100, -1);
        due.is("22 a little ahead", x.borne(0, 1, 200), 1);
        SenderRows far = withStations(new int[] {100, -100, 100, 99}, new int[] {-100, 100, 99, 98}, new int[] {-100, -100, 100, 99});
        // 19800 squared by 19801 lies between 140 and 141 squared
        due.is("22 far away", far.borne(0, 1, 140), 0);
        due.is("22 far away", far.borne(0, 1, 141), 1);
        far.look(2, 100, -100);
        due.is("22 far away, far aside", far.borne(0, 1, 200), 0);
        far.look(2, -100, -100);
        due.is("22 far away, behind", far.borne(0, 1, 200), 0);
    }

    private static void mostIs(SenderRows x, int width, int i, int j, int many) {
        due.is("23 i", x.most(width, 0), i);
        due.is("23 j", x.most(width, 1), j);
        due.is("23 by how many", x.most(width, 2), many);
    }

    private static void most() {
        SenderRows x = new SenderRows();
        mostIs(x, 0, NONE, NONE, NONE);
        x.station(0, 0, 1, 0);
        mostIs(x, 200, NONE, NONE, NONE);
        x.station(5, -5, 0, -1);
        mostIs(x, 200, NONE, NONE, NONE);
        x.look(1, 0, 1);
        mostIs(x, 200, 0, 1, 0);
        x.station(8, -5, 0, 1);
        mostIs(x, 0, 0, 1, 0);
        x.station(8, 5, 0, -1);
        mostIs(x, 0, 0, 2, 1);
        mostIs(x, 2, 0, 2, 1);
        mostIs(x, 3, 0, 1, 2);
        x.look(0, -1, 0);
        mostIs(x, 200, NONE, NONE, NONE);
        x.look(3, -1, 0);
        mostIs(x, 0, 1, 3, 0);
        for (int width : new int[] {-1, 201, MIN, MAX}) due.is("23 outside", x.most(width, 0), OUTSIDE);
        for (int what : new int[] {-1, 3, MIN, MAX}) due.is("23 outside", x.most(0, what), OUTSIDE);
    }
}
