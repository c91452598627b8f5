/**
 * The sentences ahead of the promises, from the document's first line on, each with an example of
 * its own that was worked out by hand.
 */
public final class TermsTest {
    private static final Checks CHECKS = new Checks();
    private static final int NONE = TrimSheet.NONE, BAD = TrimSheet.BAD, STATE = TrimSheet.STATE,
        FULL = TrimSheet.FULL;
    private static String sentence = "";

    public static void main(String[] args) {
        arms();
        momentsAndArms();
        holdsAndSlots();
        floors();
        items();
        apart();
        rowsAndPassengers();
        tanks();
        limits();
        withinLimits();
        dryState();
        flight();
        fits();
        stops();
        toLoad();
        swapsAndMoves();
        toBetter();
        theBest();
        latePassengers();
        refusals();
        CHECKS.end("TermsTest");
    }

    private static void says(String words) {
        sentence = words;
    }

    private static void due(String call, long got, long want) {
        CHECKS.due("\"" + sentence + "\" " + call, got, want);
    }

    /** A hold that bears all, with slots that bear all. */
    private static int addHold(TrimSheet t, int... arms) {
        int hold = t.hold(20000, 20000);
        for (int arm : arms) {
            t.slot(hold, arm, 20000);
        }
        return hold;
    }

    private static TrimSheet empty(int weight, int arm) {
        TrimSheet t = new TrimSheet();
        t.empty(weight, arm);
        return t;
    }

    // ---- 1

    private static void arms() {
        says("WEIGHTS are whole, ARMS are whole, 0 ..");
        int[][] arms = {{-1, 0}, {0, 1}, {5000, 1}, {5001, 0}};
        for (int[] a : arms) {
            TrimSheet t = new TrimSheet();
            t.hold(1, 1);
            boolean isGood = a[1] == 1;
            due("empty " + a[0], t.empty(1000, a[0]), isGood ? 0 : BAD);
            due("slot " + a[0], t.slot(0, a[0], 1), isGood ? 0 : BAD);
            due("row " + a[0], t.row(a[0], 1), isGood ? 0 : BAD);
            due("tank " + a[0], t.tank(a[0], 1), isGood ? 0 : BAD);
            due("point " + a[0], t.point(0, 1, a[0], a[0]), isGood ? 1 : BAD);
            due("loadAll " + a[0], t.loadAll(a[0]), isGood ? 0 : BAD);
            due("better " + a[0], t.better(a[0]), isGood ? 0 : BAD);
            due("best " + a[0], t.best(a[0]), isGood ? STATE : BAD);
            due("late " + a[0], t.late(0, a[0]), isGood ? 0 : BAD);
        }
    }

    private static void momentsAndArms() {
        says("A MOMENT is a WEIGHT times its ARM");
        TrimSheet t = empty(1234, 567);
        due("empty", t.moment(0), 699678);
        t.tank(89, 1000);
        t.fuel(0, 321);
        due("fuel", t.moment(2), 28569);
        due("both", t.moment(1), 699678 + 28569);
        says("the ARM of several things together is the sum of their MOMENTS by that of their WEIGHTS, a fraction");
        // 100,000 at 2500 and one measure at 2501 or 2499: off by less than a hundred-thousandth.
        TrimSheet heavy = empty(100000, 2500);
        addHold(heavy, 2499, 2501);
        heavy.item(1, 0, 1);
        heavy.point(0, 1, 2500, 2500);
        heavy.point(0, 1000000, 2500, 2500);
        due("just 2500", heavy.within(0), 0);
        heavy.load(0, 0, 0);
        due("a little less", heavy.within(0), 3);
        heavy.unload(0);
        heavy.load(0, 0, 1);
        due("a little more", heavy.within(0), 4);
        due("nearer by a little", heavy.better(0), 1);
        due("moved", heavy.where(0), 0);
    }

    private static void holdsAndSlots() {
        says("HOLDS are numbered from 0 on, 4 at most");
        TrimSheet t = new TrimSheet();
        for (int h = 0; h < 4; h++) {
            due("hold " + h, t.hold(100, 100), h);
        }
        due("a fifth", t.hold(100, 100), FULL);
        says("SLOTS, numbered from 0 on, 8 at most, each with an ARM above that of the SLOT before, and a MOST");
        for (int s = 0; s < 8; s++) {
            due("not above " + s, s == 0 ? BAD : t.slot(1, 10 * s - 10, 5), BAD);
            due("slot " + s, t.slot(1, 10 * s, 5), s);
        }
        due("a ninth", t.slot(1, 80, 5), FULL);
        due("slots of one hold alone", t.count(1), 8);
        says("its DOOR is at SLOT 0");
        TrimSheet door = new TrimSheet();
        addHold(door, 1, 2);
        door.load(door.item(1, 0, 1), 0, 1);
        door.load(door.item(1, 0, 2), 0, 0);
        due("the one at the door is in the way", door.pushed(1), 1);
        TrimSheet free = new TrimSheet();
        addHold(free, 1, 2);
        free.load(free.item(1, 0, 1), 0, 0);
        free.load(free.item(1, 0, 2), 0, 1);
        due("the one behind is not", free.pushed(1), 0);
    }

    private static void floors() {
        says("what any two neighbouring SLOTS bear together at most");
        TrimSheet t = new TrimSheet();
        t.hold(1000, 100);
        for (int s = 0; s < 4; s++) {
            t.slot(0, s, 1000);
        }
        for (int weight : new int[] {60, 41, 40, 101, 100}) {
            t.item(weight, 0, 1);
        }
        t.load(0, 0, 1);
        due("60 and 41", t.fits(1, 0, 2), 4);
        due("60 and 40", t.fits(2, 0, 2), 0);
        due("101 and nothing", t.fits(3, 0, 3), 4);
        due("100 and nothing", t.fits(4, 0, 3), 0);
        due("what they bear now", t.about(0, 2), 60);
    }

    private static void items() {
        says("ITEMS are numbered from 0 on, 40 at most: WEIGHT 1 .. 5000, KIND 0 .. 7, STOP 1 .. 4");
        TrimSheet t = new TrimSheet();
        for (int i = 0; i < 40; i++) {
            due("item " + i, t.item(i % 2 == 0 ? 1 : 5000, i % 8, 1 + i % 4), i);
            due("not loaded " + i, t.where(i), NONE);
        }
        due("one more", t.item(1, 0, 1), FULL);
        says("a SLOT takes one ITEM");
        addHold(t, 1, 2);
        due("the first", t.load(0, 0, 0), 0);
        due("the second", t.load(2, 0, 0), 1);
        due("the second elsewhere", t.load(2, 0, 1), 0);
    }

    private static void apart() {
        says("in one HOLD there must be d SLOTS or more from one to the other: |i - j| >= d");
        TrimSheet t = new TrimSheet();
        addHold(t, 1, 2, 3, 4, 5);
        addHold(t, 1);
        t.item(1, 4, 1);
        t.item(1, 6, 1);
        t.apart(6, 4, 2);
        t.load(0, 0, 2);
        int[] due = {0, 5, 1, 5, 0};
        for (int s = 0; s < 5; s++) {
            due("from 2 to " + s, t.fits(1, 0, s), due[s]);
        }
        due("another hold", t.fits(1, 1, 0), 0);
        says("Two KINDS (perhaps alike)");
        t.item(1, 4, 1);
        due("not told yet", t.fits(2, 0, 1), 0);
        t.apart(4, 4, 2);
        due("told", t.fits(2, 0, 1), 5);
        due("far enough", t.fits(2, 0, 0), 0);
    }

    private static void rowsAndPassengers() {
        says("ROWS of seats are numbered from 0 on, 10 at most");
        TrimSheet t = new TrimSheet();
        for (int r = 0; r < 10; r++) {
            due("row " + r, t.row(100 * r, 1 + r % 8), r);
        }
        due("an eleventh", t.row(0, 1), FULL);
        says("A PASSENGER weighs PERSON (50 .. 150; 80 at first)");
        t.seat(9, 2);
        due("two", t.weight(0), 1160);
        due("two", t.moment(0), 144000);
        due("what it was", t.person(150), 80);
        due("those who sit already weigh so much, too", t.weight(0), 1300);
        due("what it was", t.person(50), 150);
        due("two", t.moment(0), 90000);
    }

    private static void tanks() {
        says("TANKS are numbered from 0 on, 4 at most: an ARM, a MOST (0 .. 20000), how much is in it");
        TrimSheet t = new TrimSheet();
        int[] arms = {100, 200, 300, 400};
        for (int n = 0; n < 4; n++) {
            due("tank " + n, t.tank(arms[n], 10), n);
        }
        due("a fifth", t.tank(1, 1), FULL);
        says("They are BURNT from the last one that was told down, each till it is empty");
        // Filled in another order than told: it is the tanks' order that counts.
        t.fuel(3, 2);
        t.fuel(1, 3);
        t.fuel(0, 1);
        long[] moments = {1500, 1100, 700, 500, 300, 100, 0};
        for (int b = 0; b < moments.length; b++) {
            due("burnt " + b, t.burnt(b, 0), moments[b]);
        }
    }

    // ---- 2

    private static void limits() {
        says("for each PHASE, 0 DRY (no fuel), 1 FLYING, a row of POINTS (10 at most), WEIGHTS rising");
        TrimSheet t = new TrimSheet();
        for (int n = 1; n <= 10; n++) {
            due("dry " + n, t.point(0, 100 * n, 10, 20), n);
            due("not rising " + n, t.point(0, 100 * n, 10, 20), BAD);
        }
        due("an eleventh", t.point(0, 2000, 10, 20), FULL);
        due("flying has its own", t.point(1, 1, 10, 20), 1);
        says("the least ARM is on the straight line between the POINTS on both sides of it, likewise the greatest");
        // Half way from 1000 to 1200: least 150, greatest 350; a quarter: 125 and 325.
        int[][] states = {{1100, 149, 3}, {1100, 150, 0}, {1100, 350, 0}, {1100, 351, 4}, {1050, 124, 3},
            {1050, 125, 0}, {1050, 325, 0}, {1050, 326, 4}, {1000, 100, 0}, {1000, 300, 0}, {1200, 200, 0},
            {1200, 400, 0}, {1200, 401, 4}, {1300, 199, 3}, {1300, 200, 0}, {1300, 300, 0}, {1300, 301, 4}};
        for (int[] s : states) {
            TrimSheet line = empty(s[0], s[1]);
            line.point(0, 1000, 100, 300);
            line.point(0, 1200, 200, 400);
            line.point(0, 1400, 200, 200);
            due(Calls.told("state", s[0], s[1]), line.within(0), s[2]);
        }
    }

    private static void withinLimits() {
        says("WITHIN a PHASE's LIMITS if the WEIGHT is from the first to the last POINT's");
        int[][] weights = {{1499, 1}, {1500, 0}, {1600, 0}, {1601, 2}};
        for (int[] w : weights) {
            TrimSheet t = empty(w[0], 7);
            due("without points", t.within(0), STATE);
            t.point(0, 1500, 0, 10);
            t.point(0, 1600, 0, 10);
            due("weight " + w[0], t.within(0), w[1]);
        }
        says("With at least 1 POINT");
        TrimSheet t = empty(1500, 7);
        t.point(0, 1500, 7, 7);
        due("one point", t.within(0), 0);
    }

    private static void dryState() {
        says("The DRY state: all but fuel.");
        TrimSheet t = empty(1000, 10);
        addHold(t, 20);
        t.item(100, 0, 1);
        t.item(1, 0, 1);
        t.load(0, 0, 0);
        t.row(30, 2);
        t.seat(0, 1);
        t.tank(40, 500);
        t.fuel(0, 500);
        due("weight", t.weight(0), 1000 + 100 + 80);
        due("moment", t.moment(0), 10000 + 2000 + 2400);
    }

    private static void flight() {
        says("The FLIGHT burns so much fuel as is told (all that there is, if that is less), measure by measure");
        // All at 1000 but the fuel, at 2000: the arm comes down from 1000 + 10,000 / 1010.
        TrimSheet t = empty(1000, 1000);
        t.tank(2000, 100);
        t.fuel(0, 10);
        t.point(0, 1000, 1000, 1000);
        t.point(1, 1000, 1000, 1010);
        t.point(1, 1010, 1000, 1010);
        due("all", t.wrong(10), NONE);
        due("more than there is", t.wrong(11), NONE);
        due("safe", t.safe(11), 1);
        says("its moments are 0, 1, .. to that many measures burnt");
        t.wipe(1);
        t.point(1, 1001, 1000, 1010);
        t.point(1, 1010, 1000, 1010);
        due("the last one is not reached", t.wrong(9), NONE);
        due("the last one", t.wrong(10), 10);
        due("the last one of more", t.wrong(500), 10);
        says("the DRY state is WITHIN DRY's LIMITS, and at each moment the state with all fuel but what was burnt");
        due("to the last but one", t.safe(9), 1);
        due("to the last", t.safe(10), 0);
        t.wipe(0);
        t.point(0, 1000, 1001, 1001);
        due("dry is not within", t.safe(9), 0);
        says("The FIRST WRONG moment is the least at which that is not so.");
        t.wipe(1);
        t.point(1, 1000, 1005, 1020);
        t.point(1, 2000, 1005, 1020);
        // 1000 x / (1000 + x) < 5 below x = 5.03: 5 are left when 5 have been burnt.
        due("of 5 to 10 the least", t.wrong(10), 5);
        due("not yet", t.wrong(4), NONE);
    }

    // ---- 3

    private static void fits() {
        says("An ITEM FITS a SLOT that is free if its WEIGHT is no more than the SLOT's MOST, the HOLD has no more");
        TrimSheet t = new TrimSheet();
        t.hold(100, 90);
        for (int most : new int[] {50, 60, 70, 80}) {
            t.slot(0, most, most);
        }
        int[] weights = {40, 51, 61, 60, 49, 50, 1};
        for (int n = 0; n < weights.length; n++) {
            t.item(weights[n], n == 6 ? 1 : 0, 1);
        }
        t.apart(0, 1, 3);
        t.load(0, 0, 0);
        due("not free", t.fits(1, 0, 0), 1);
        due("61 into 60", t.fits(2, 0, 1), 2);
        due("60 with 40 in the hold", t.fits(3, 0, 2), 0);
        due("61 with 40 in the hold", t.fits(2, 0, 2), 3);
        due("50 next to 40", t.fits(5, 0, 1), 0);
        due("51 next to 40", t.fits(1, 0, 1), 4);
        due("too near", t.fits(6, 0, 2), 5);
        due("not too near", t.fits(6, 0, 3), 0);
    }

    private static void stops() {
        says("PUSHED is each other one that lies in a SLOT with a lesser number than some such one of its HOLD.");
        TrimSheet t = new TrimSheet();
        addHold(t, 1, 2, 3, 4, 5);
        int[] stopsFromTheDoor = {3, 2, 1, 4, 2};
        for (int s = 0; s < 5; s++) {
            t.load(t.item(1, 0, stopsFromTheDoor[s]), 0, s);
        }
        due("at 1", t.pushed(1), 2);
        due("at 2: those of 3 and 4", t.pushed(2), 2);
        due("at 3", t.pushed(3), 0);
        due("at 4", t.pushed(4), 0);
        due("at all together", t.pushed(0), 4);
        says("(It is put back where it was.)");
        for (int s = 0; s < 5; s++) {
            due("slot " + s, t.where(s), s);
        }
        says("at s all ITEMS of lesser STOPS are gone");
        TrimSheet gone = new TrimSheet();
        addHold(gone, 1, 2);
        gone.load(gone.item(1, 0, 1), 0, 0);
        gone.load(gone.item(1, 0, 2), 0, 1);
        due("the one of stop 1 is not pushed at 2, though it has not arrived yet", gone.pushed(2), 0);
    }

    private static void toLoad() {
        says("heaviest first, of alike ones the least number");
        TrimSheet t = empty(1000, 1000);
        addHold(t, 1000, 1500, 2000);
        t.item(10, 0, 1);
        t.item(20, 0, 1);
        t.item(10, 0, 1);
        t.item(1, 0, 1);
        // To 1000: the heaviest takes 1000; the others can only go behind, the first of them to 1500.
        due("three of four", t.loadAll(1000), 3);
        due("the heaviest", t.where(1), 0);
        due("the first of alike ones", t.where(0), 1);
        due("the second of alike ones", t.where(2), 2);
        says("one that FITS nowhere stays");
        due("the lightest", t.where(3), NONE);
        says("nearest to a told one (as fractions), of several that of the least HOLD, then SLOT");
        TrimSheet alike = empty(100000, 1000);
        addHold(alike, 990, 1010);
        addHold(alike, 991, 1009);
        alike.item(1, 0, 1);
        alike.item(1, 0, 1);
        due("two", alike.loadAll(1000), 2);
        due("991 and 1009 are nearer by a little; the least slot", alike.where(0), 8);
        due("just made up for", alike.where(1), 9);
    }

    private static void swapsAndMoves() {
        says("is GOOD if all that move FIT where they come");
        TrimSheet t = empty(1000, 1000);
        t.hold(1000, 1000);
        t.slot(0, 900, 20);
        t.slot(0, 1000, 30);
        t.item(30, 0, 1);
        t.item(20, 0, 1);
        t.load(0, 0, 1);
        t.load(1, 0, 0);
        due("30 does not go into 20", t.better(900), 0);
        says("(with all others as they are, those that move taken out)");
        // A hold that bears just both, a floor that bears just both: each makes room for the other.
        TrimSheet full = empty(1000, 1000);
        full.hold(50, 50);
        full.slot(0, 900, 30);
        full.slot(0, 1000, 30);
        full.item(30, 0, 1);
        full.item(20, 0, 1);
        full.load(0, 0, 1);
        full.load(1, 0, 0);
        due("swapped", full.better(900), 1);
        due("30 in front", full.where(0), 0);
        says("the DRY ARM is nearer to the told one than before");
        due("as near is not nearer", full.better(900), 0);
    }

    private static void toBetter() {
        says("the first (SWAPS by the lesser, then the greater number; then MOVES by ITEM, HOLD, SLOT) is done");
        TrimSheet t = empty(1000, 1000);
        addHold(t, 900, 1000, 1100);
        t.item(30, 0, 1);
        t.item(20, 0, 1);
        t.load(0, 0, 0);
        t.load(1, 0, 1);
        // From a lean of -3000: the swap makes it -2000, though a move of item 1 to 1100 would make it -1000.
        due("a swap, a move", t.better(1000), 2);
        // Then item 0 lies at 1000 and item 1 at 900; a move of item 0 to 1100 makes it 1000.
        due("item 0", t.where(0), 2);
        due("item 1", t.where(1), 0);
        says("50 times at most");
        TrimSheet steps = empty(1000, 0);
        for (int h = 0; h < 4; h++) {
            addHold(steps, 8 * h, 8 * h + 1, 8 * h + 2, 8 * h + 3, 8 * h + 4, 8 * h + 5, 8 * h + 6, 8 * h + 7);
        }
        steps.item(10, 0, 1);
        steps.item(10, 0, 1);
        steps.load(0, 0, 0);
        steps.load(1, 0, 1);
        // Slot by slot: 30 steps and 29; 50 of those 59.
        due("fifty", steps.better(5000), 50);
        due("the rest", steps.better(5000), 9);
    }

    private static void theBest() {
        says("that with the least PUSHED of all STOPS together, of these that with the DRY ARM nearest to the told one");
        TrimSheet t = empty(1000, 1000);
        addHold(t, 1000, 1100);
        addHold(t, 1200);
        t.item(50, 0, 3);
        t.item(10, 0, 1);
        // Nearest to 1000 is 50 at 1000 and 10 at 1100: that pushes one. None is pushed with 10 at 1200, too.
        due("none is pushed", t.best(1000), 0);
        due("the heavier one nearest", t.where(0), 0);
        due("the lighter one elsewhere", t.where(1), 8);
        says("of these the first (by the SLOT of the first ITEM, then of the next one; SLOTS by HOLD, then number)");
        TrimSheet alike = empty(1000, 1000);
        addHold(alike, 990, 1010);
        addHold(alike, 990, 1010);
        alike.item(10, 0, 1);
        alike.item(10, 0, 1);
        due("none is pushed", alike.best(1000), 0);
        due("the first slot for the first one", alike.where(0), 0);
        due("the first that makes up for it", alike.where(1), 1);
        says("for 4 ITEMS that are not LOADED at most and 10 free SLOTS at most");
        due("none waits", alike.best(1000), STATE);
    }

    private static void latePassengers() {
        says("each in turn into the ROW with a free seat by which the DRY ARM is nearest to the told one");
        TrimSheet t = empty(1000, 1000);
        t.row(900, 3);
        t.row(1100, 1);
        t.row(1150, 3);
        due("five", t.late(5, 1000), 5);
        // 900 (as near as 1100); 1100 makes up for it; 900; 1150; 900.
        due("row 0", t.seat(0, 3), 3);
        due("row 1", t.seat(1, 1), 1);
        due("row 2", t.seat(2, 1), 1);
        says("of several the least");
        TrimSheet alike = empty(1000, 1000);
        alike.row(1100, 8);
        alike.row(900, 8);
        alike.late(1, 1000);
        due("row 0", alike.seat(0, 0), 1);
    }

    // ---- 4

    private static void refusals() {
        says("REFUSALS, of several the first one told");
        TrimSheet t = new TrimSheet();
        due("NONE before BAD", t.slot(0, -1, -1), NONE);
        due("BAD before NONE, as item tells them", t.item(0, -1, 0), BAD);
        due("BAD before STATE", t.safe(-1), BAD);
        due("BAD before STATE", t.best(-1), BAD);
        due("NONE before STATE", t.unload(0), NONE);
        for (int n = 0; n < 4; n++) {
            t.hold(1, 1);
        }
        due("BAD before FULL", t.hold(-1, 1), BAD);
        says("They change nothing.");
        due("holds", t.count(0), 4);
        due("slots", t.count(1), 0);
        due("items", t.count(2), 0);
    }
}
