import java.util.ArrayList;
import java.util.List;

/** That a Portrait shows each change, within the calls that an object is used for. */
public final class PortraitTest {
    private static final Due due = new Due();

    public static void main(String[] args) {
        same();
        row();
        stations();
        due.end();
    }

    private static void shows(String what, Bounds.Made made, Bounds.Call change) {
        SenderRows x = made.make();
        change.on(x);
        due.holds("shown: " + what, !Portrait.difference(Portrait.of(made.make()), Portrait.of(x)).isEmpty());
    }

    private static void showsBoth(String what, Bounds.Call change) {
        shows(what + ", busy", Bounds::busy, change);
        shows(what + ", full", Bounds::full, change);
    }

    private static void same() {
        due.holds("no change, new", Portrait.of(new SenderRows()).equals(Portrait.of(new SenderRows())));
        due.holds("no change, busy", Portrait.of(Bounds.busy()).equals(Portrait.of(Bounds.busy())));
        due.holds("no change, full", Portrait.of(Bounds.full()).equals(Portrait.of(Bounds.full())));
        List<String> shorter = new ArrayList<>(Portrait.of(Bounds.busy()));
        shorter.remove(shorter.size() - 1);
        due.holds("shorter", !Portrait.difference(Portrait.of(Bounds.busy()), shorter).isEmpty());
    }

    private static void row() {
        showsBoth("prime", x -> x.prime(41));
        showsBoth("the same prime", x -> x.prime(x.count(0)));
        showsBoth("hearers", x -> x.hearers(0xFF7FA));
        showsBoth("no hearers", x -> x.hearers(0));
        showsBoth("drop", SenderRows::drop);
        shows("sender", Bounds::busy, x -> x.sender(1, 1));
        shows("another slant", Bounds::busy, x -> x.drop() + x.sender(35, 7));
        shows("another strength", Bounds::busy, x -> x.drop() + x.sender(36, 8));
        shows("another order", Bounds::busy, x -> x.drop() + x.drop() + x.sender(36, 7) + x.sender(10, 2));
        for (int k = 0; k < 24; k++) {
            int place = k;
            showsBoth("gain " + k, x -> x.gain(place, 11));
            showsBoth("read " + k, x -> x.read(place, 3));
            shows("read as it is " + k, Bounds::busy, x -> x.read(place, byHand(place) ? 4 : x.read(place, -1)));
        }
        for (int k = 0; k < 24; k++) {
            int place = k;
            if (byHand(k)) shows("taken back " + k, Bounds::busy, x -> x.read(place, -1));
        }
    }

    /** Whether the busy object has a READ by hand there. */
    private static boolean byHand(int k) {
        return k == 1 || k == 2 || k == 22;
    }

    private static void stations() {
        shows("station", Bounds::busy, x -> x.station(1, 1, 1, 1));
        for (int i = 0; i < 6; i++) {
            int station = i;
            if (i < 4) shows("look " + i, Bounds::busy, x -> x.look(station, -1, -7));
            shows("look, full " + i, Bounds::full, x -> x.look(station, 1, -7));
        }
        int[] spot = {0, 0, 1, 2};
        for (int d = 0; d < 2; d++) {
            for (int by : new int[] {-1, 1}) {
                int[] moved = spot.clone();
                moved[d] += by;
                due.holds("moved", !Portrait.of(Bounds.withStations(spot, new int[] {5, 5, 0, 1}))
                    .equals(Portrait.of(Bounds.withStations(moved, new int[] {5, 5, 0, 1}))));
            }
        }
    }
}
