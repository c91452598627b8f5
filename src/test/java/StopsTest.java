/** Promises 26 and 27: stops. */
public final class StopsTest {
    private static final Checks CHECKS = new Checks();

    private static void due(String call, long got, long want) {
        CHECKS.due(call, got, want);
    }

    public static void main(String[] args) {
        pushed();
        pushedIsOfOneHold();
        arrive();
        CHECKS.end("StopsTest");
    }

    /** Items with these stops from the door on; 0: a free slot. */
    private static void fill(TrimSheet t, int... stops) {
        int hold = t.hold(20000, 20000);
        for (int s = 0; s < stops.length; s++) {
            t.slot(hold, s, 20000);
            if (stops[s] > 0) {
                t.load(t.item(10, 0, stops[s]), hold, s);
            }
        }
    }

    private static void duePushed(TrimSheet t, int... want) {
        for (int stop = 0; stop <= 4; stop++) {
            due("26 pushed(" + stop + ")", t.pushed(stop), want[stop]);
        }
    }

    private static void pushed() {
        TrimSheet t = new TrimSheet();
        due("26 stop -1", t.pushed(-1), TrimSheet.NONE);
        due("26 stop 5", t.pushed(5), TrimSheet.NONE);
        fill(t, 1, 2, 3, 4);
        duePushed(t, 0, 0, 0, 0, 0);
        TrimSheet back = new TrimSheet();
        fill(back, 4, 3, 2, 1);
        duePushed(back, 3 + 2 + 1, 3, 2, 1, 0);
        TrimSheet twice = new TrimSheet();
        // Two of one stop push an item once; those of lesser stops are gone.
        fill(twice, 3, 0, 1, 4, 2, 0, 2, 3);
        duePushed(twice, 4, 1, 2, 1, 0);
    }

    private static void pushedIsOfOneHold() {
        TrimSheet t = new TrimSheet();
        fill(t, 2, 1);
        fill(t, 2, 2, 1);
        fill(t, 1, 4, 4);
        duePushed(t, 3, 3, 0, 0, 0);
        t.arrive(1);
        duePushed(t, 0, 0, 0, 0, 0);
        t.item(10, 0, 1);
        duePushed(t, 0, 0, 0, 0, 0);
    }

    private static void arrive() {
        TrimSheet t = new TrimSheet();
        fill(t, 1, 2, 1, 4);
        fill(t, 1);
        t.item(10, 0, 1);
        due("27 stop 0", t.arrive(0), TrimSheet.NONE);
        due("27 stop 5", t.arrive(5), TrimSheet.NONE);
        due("27 stop -1", t.arrive(-1), TrimSheet.NONE);
        due("27 nothing changed", t.count(3), 5);
        due("27 stop 3", t.arrive(3), 0);
        due("27 stop 1", t.arrive(1), 3);
        due("27 items stay", t.count(2), 6);
        due("27 two are loaded", t.count(3), 2);
        due("27 free", t.in(0, 0), TrimSheet.NONE);
        due("27 free", t.in(1, 0), TrimSheet.NONE);
        due("27 the others lie where they lay", t.where(3), 3);
        due("27 not loaded", t.where(0), TrimSheet.NONE);
        due("27 stop 1 again", t.arrive(1), 0);
        due("27 stop 4 out of its turn", t.arrive(4), 1);
    }
}
