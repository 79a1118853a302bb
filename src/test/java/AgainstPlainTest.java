import java.util.Random;

/** Long runs of calls, ordinary and wrong ones, on SenderRows and on PlainRows side by side. */
public final class AgainstPlainTest {
    private static final int[] PRIMES = {5, 7, 11, 13, 17, 31, 31, 61, 97, 97};
    private static final int CALLS = 512;

    private final Random random;
    private final Due due;
    private final int run;
    private final SenderRows x = new SenderRows();
    private final PlainRows plain = new PlainRows();
    private final StringBuilder told = new StringBuilder();

    private AgainstPlainTest(int run, Due due) {
        this.run = run;
        this.due = due;
        random = new Random(run);
    }

    public static void main(String[] args) {
        Due due = new Due();
        for (int run = 0; run < 160 && due.isClean(); run++) {
            new AgainstPlainTest(run, due).go();
        }
        due.end();
    }

    private void go() {
        int kind = run % 4;
        for (int call = 0; call < CALLS; call++) {
            if (kind == 0) any(random.nextInt(23));
            else if (kind == 1) any(random.nextInt(4) == 0 ? random.nextInt(8) : 9 + random.nextInt(6));
            else if (kind == 2) any(random.nextInt(4) == 0 ? random.nextInt(3) : 15 + random.nextInt(3));
            else any(random.nextInt(5) == 0 ? 4 : 18 + random.nextInt(5));
            if (!due.isClean()) {
                System.out.println("run " + run + ":" + told);
                return;
            }
        }
    }

    /** A number from low to high, now and then one beside them. */
    private int in(int low, int high) {
        int dice = random.nextInt(60);
        if (dice == 0) return low - 1;
        if (dice == 1) return high + 1;
        if (dice == 2) return random.nextInt();
        if (dice == 3) return low;
        if (dice == 4) return high;
        return high < low ? low : low + random.nextInt(high - low + 1);
    }

    private int p() {
        return plain.count(0);
    }

    private int aSet() {
        switch (random.nextInt(6)) {
            case 0: return in(0, 16777215);
            case 1: return (1 << 1 + random.nextInt(24)) - 1;
            case 2: return random.nextInt(1 << 24) & random.nextInt(1 << 24);
            case 3: return 0x111111 << random.nextInt(3) & 0xFFFFFF;
            case 4: return random.nextInt(1 << 24) & random.nextInt(1 << 24) & random.nextInt(1 << 24);
            default: return 0xFFFFFF & ~(1 << random.nextInt(24));
        }
    }

    /** s and n, most of the time a SPAN that is there. */
    private int[] span() {
        for (int tries = 0; tries < 6; tries++) {
            int s = in(0, 23);
            int n = in(1, 24 - Math.max(0, Math.min(23, s)));
            if (plain.order(s, n) >= 0 || tries == 5) return new int[] {s, n};
        }
        return new int[] {0, 1};
    }

    private int way() {
        return random.nextInt(3) == 0 ? in(-100, 100) : in(-3, 3);
    }

    private int spot() {
        return random.nextInt(3) == 0 ? in(-100, 100) : in(-10, 10);
    }

    private int width() {
        return random.nextInt(2) == 0 ? in(0, 200) : in(0, 8);
    }

    private void tell(String name, long got, long want, int... arguments) {
        StringBuilder call = new StringBuilder(name).append('(');
        for (int i = 0; i < arguments.length; i++) call.append(i == 0 ? "" : ", ").append(arguments[i]);
        call.append(')');
        told.append(' ').append(call).append("=").append(want);
        due.is("run " + run + ": " + call, got, want);
    }

    private void any(int call) {
        if (call < 9) theRow(call);
        else if (call < 15) spans(call);
        else thinRowsAndStations(call);
    }

    private void theRow(int call) {
        int a;
        int b;
        switch (call) {
            case 0:
                // seldom, for with it all SENDERS go
                if (random.nextInt(4) != 0) return;
                a = random.nextInt(2) == 0 ? in(5, 97) : PRIMES[random.nextInt(PRIMES.length)];
                tell("prime", x.prime(a), plain.prime(a), a);
                break;
            case 1:
                a = random.nextInt(3) == 0 ? 0xFFFFFF : aSet();
                tell("hearers", x.hearers(a), plain.hearers(a), a);
                break;
            case 2:
                a = in(1, p() - 1);
                b = in(1, p() - 1);
                tell("sender", x.sender(a, b), plain.sender(a, b), a, b);
                break;
            case 3:
                tell("drop", x.drop(), plain.drop());
                break;
            case 4:
                a = in(0, 23);
                b = random.nextInt(2) == 0 ? 1 : in(1, p() - 1);
                tell("gain", x.gain(a, b), plain.gain(a, b), a, b);
                break;
            case 5:
                a = in(0, 23);
                b = random.nextInt(2) == 0 ? -1 : in(-1, p() - 1);
                tell("read", x.read(a, b), plain.read(a, b), a, b);
                break;
            case 6:
                a = in(0, 23);
                tell("heard", x.heard(a), plain.heard(a), a);
                break;
            case 7:
                // all READS of a stretch by hand, of few kinds, so that odd ORDERS come about
                int some = 1 + random.nextInt(3);
                for (int k = random.nextInt(20); k < 24; k++) {
                    b = random.nextInt(some);
                    tell("read", x.read(k, b), plain.read(k, b), k, b);
                    if (random.nextInt(12) == 0) break;
                }
                break;
            default:
                a = in(0, 9);
                tell("count", x.count(a), plain.count(a), a);
        }
    }

    private void spans(int call) {
        int[] span = span();
        int s = span[0];
        int n = span[1];
        int i;
        switch (call) {
            case 9:
                tell("order", x.order(s, n), plain.order(s, n), s, n);
                break;
            case 10:
                i = in(0, Math.max(0, plain.order(s, n)));
                tell("law", x.law(s, n, i), plain.law(s, n, i), s, n, i);
                break;
            case 11:
                i = in(-1, 8);
                tell("slant", x.slant(s, n, i), plain.slant(s, n, i), s, n, i);
                break;
            case 12:
                i = in(0, 8);
                tell("strength", x.strength(s, n, i), plain.strength(s, n, i), s, n, i);
                break;
            case 13:
                if (random.nextInt(3) != 0) return;
                i = in(s, s + n - 1);
                int what = in(0, 2);
                tell("mended", x.mended(s, n, i, what), plain.mended(s, n, i, what), s, n, i, what);
                break;
            default:
                i = in(0, Math.max(0, plain.count(2) - 1));
                tell("tune", x.tune(i), plain.tune(i), i);
        }
    }

    private void thinRowsAndStations(int call) {
        int a;
        int b;
        int c;
        switch (call) {
            case 15:
                a = random.nextInt(2) == 0 ? in(0, 10) : in(0, plain.count(7));
                b = in(0, 1);
                tell("twin", x.twin(a, b), plain.twin(a, b), a, b);
                break;
            case 16:
                a = in(0, 23);
                tell("weight", x.weight(a), plain.weight(a), a);
                break;
            case 17:
                a = in(0, 1);
                tell("best", x.best(a), plain.best(a), a);
                for (int what = 5; what < 10; what++) tell("count", x.count(what), plain.count(what), what);
                break;
            case 18:
                a = spot();
                b = spot();
                c = way();
                int d = way();
                tell("station", x.station(a, b, c, d), plain.station(a, b, c, d), a, b, c, d);
                break;
            case 19:
                a = in(0, 5);
                b = way();
                c = way();
                tell("look", x.look(a, b, c), plain.look(a, b, c), a, b, c);
                break;
            case 20:
                a = in(0, 5);
                b = in(0, 5);
                c = in(0, 3);
                tell("crossing", x.crossing(a, b, c), plain.crossing(a, b, c), a, b, c);
                break;
            case 21:
                a = in(0, 5);
                b = in(0, 5);
                c = width();
                tell("borne", x.borne(a, b, c), plain.borne(a, b, c), a, b, c);
                break;
            default:
                a = width();
                b = in(0, 2);
                tell("most", x.most(a, b), plain.most(a, b), a, b);
        }
    }
}
