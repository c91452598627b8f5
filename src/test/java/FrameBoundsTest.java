/** Promises 1 to 13 at their bounds: the least and the greatest of each number, and all that there may be. */
public final class FrameBoundsTest {
    private static final Checks CHECKS = new Checks();
    private static final int LEAST = Integer.MIN_VALUE, GREATEST = Integer.MAX_VALUE;

    private static void due(String call, long got, long want) {
        CHECKS.due(call, got, want);
    }

    public static void main(String[] args) {
        newObjectHasNothingElse();
        newObjectsHaveNothingInCommon();
        emptyWeightAndArm();
        holdMost();
        holdFloor();
        fourHolds();
        slotMost();
        slotArmsRise();
        eightSlots();
        apartForAllKinds();
        itemBounds();
        fortyItems();
        rowBounds();
        tankBounds();
        personBounds();
        seatBounds();
        fuelBounds();
        pointBounds();
        pointWeightsRise();
        wipeEmptyAndFull();
        CHECKS.end("FrameBoundsTest");
    }

    private static Story story() {
        return new Story();
    }

    private static void changesNothing(Story story, String why, long want, String name, int... numbers) {
        story.changesNothing(CHECKS, why, want, name, numbers);
    }

    // ---- 1: "EMPTY WEIGHT 1000, ARM 0; nothing else"

    private static void newObjectHasNothingElse() {
        TrimSheet t = new TrimSheet();
        for (int n = 0; n < 8; n++) {
            due("1 count(" + n + ")", t.count(n), n == 7 ? 80 : 0);
            due("1 no hold " + n, t.about(n, 0), TrimSheet.NONE);
            due("1 no slot " + n, t.in(n, 0), TrimSheet.NONE);
            due("1 no item " + n, t.where(n), TrimSheet.NONE);
            due("1 no row " + n, t.seat(n, 0), TrimSheet.NONE);
            due("1 no tank " + n, t.fuel(n, 0), TrimSheet.NONE);
        }
        due("1 weight", t.weight(1), 1000);
        due("1 moment", t.moment(1), 0);
        due("1 nothing to burn", t.burnt(1, 1), TrimSheet.NO);
        due("1 safe", t.safe(0), TrimSheet.STATE);
        due("1 wrong", t.wrong(0), TrimSheet.STATE);
        due("1 nothing to push", t.pushed(0), 0);
        due("1 nothing arrives", t.arrive(1), 0);
        due("1 nothing to load", t.loadAll(0), 0);
        due("1 nothing to better", t.better(0), 0);
        due("1 nothing for the best", t.best(0), TrimSheet.STATE);
        due("1 no seat", t.late(80, 0), 0);
        due("1 no point", t.wipe(0) + t.wipe(1), 0);
    }

    private static void newObjectsHaveNothingInCommon() {
        TrimSheet one = new TrimSheet();
        one.empty(5000, 50);
        one.hold(10, 10);
        one.slot(0, 1, 10);
        one.item(10, 0, 1);
        one.apart(0, 0, 8);
        one.load(0, 0, 0);
        one.person(100);
        one.point(0, 1, 0, 0);
        newObjectHasNothingElse();
        due("1 apart of another", new TrimSheet().apart(0, 0, 0), 0);
        due("1 the other one is untouched", one.weight(0), 5010);
    }

    // ---- 2: EMPTY WEIGHT 1000 .. 100000, ARM 0 .. 5000

    private static void emptyWeightAndArm() {
        TrimSheet t = new TrimSheet();
        for (int weight : new int[] {1000, 1001, 99999, 100000}) {
            for (int arm : new int[] {0, 1, 4999, 5000}) {
                due(Calls.told("2 empty", weight, arm), t.empty(weight, arm), 0);
                due(Calls.told("2 weight of empty", weight, arm), t.weight(0), weight);
                due(Calls.told("2 moment of empty", weight, arm), t.moment(0), (long) weight * arm);
            }
        }
        Story told = story().then("empty", 100000, 5000);
        for (int weight : new int[] {LEAST, -1000, 0, 999, 100001, GREATEST}) {
            changesNothing(told, "2 weight", TrimSheet.BAD, "empty", weight, 0);
        }
        for (int arm : new int[] {LEAST, -1, 5001, GREATEST}) {
            changesNothing(told, "2 arm", TrimSheet.BAD, "empty", 1000, arm);
        }
    }

    // ---- 3: HOLDS "4 at most, each with a MOST (weight, 0 .. 20000)", FLOOR 0 .. 20000

    /** A hold with eight slots that bear anything, one slot after the other taken by items of these weights. */
    private static TrimSheet filled(int most, int floor, int... weights) {
        TrimSheet t = new TrimSheet();
        t.hold(most, floor);
        for (int s = 0; s < 8; s++) {
            t.slot(0, s, 20000);
        }
        for (int s = 0; s < weights.length; s++) {
            due("3 loaded", t.load(t.item(weights[s], 0, 1), 0, s), 0);
        }
        return t;
    }

    private static void dueFit(String call, TrimSheet t, int weight, int slot, int want) {
        due(call + " " + weight, t.fits(t.item(weight, 0, 1), 0, slot), want);
    }

    private static void holdMost() {
        dueFit("3 a hold of most 0", filled(0, 20000), 1, 0, 3);
        dueFit("3 a hold of most 1", filled(1, 20000), 1, 0, 0);
        dueFit("3 a hold of most 1", filled(1, 20000), 2, 0, 3);
        dueFit("3 a hold of most 4999", filled(4999, 20000), 5000, 7, 3);
        dueFit("3 a hold of most 5000", filled(5000, 20000), 5000, 7, 0);
        int[] threeOfFour = {5000, 5000, 5000};
        dueFit("3 a hold of most 19999", filled(19999, 20000, threeOfFour), 4999, 3, 0);
        dueFit("3 a hold of most 19999", filled(19999, 20000, threeOfFour), 5000, 3, 3);
        dueFit("3 a hold of most 20000", filled(20000, 20000, threeOfFour), 5000, 3, 0);
        dueFit("3 a full hold of most 20000", filled(20000, 20000, 5000, 5000, 5000, 5000), 1, 4, 3);
    }

    private static void holdFloor() {
        dueFit("3 a floor of 0", filled(20000, 0), 1, 0, 4);
        dueFit("3 a floor of 0", filled(20000, 0), 1, 7, 4);
        dueFit("3 a floor of 1", filled(20000, 1), 1, 3, 0);
        dueFit("3 a floor of 1", filled(20000, 1), 2, 3, 4);
        dueFit("3 a floor of 9999", filled(20000, 9999, 5000), 4999, 1, 0);
        dueFit("3 a floor of 9999", filled(20000, 9999, 5000), 5000, 1, 4);
        dueFit("3 a floor of 10000", filled(20000, 10000, 5000), 5000, 1, 0);
        dueFit("3 a floor of 20000", filled(20000, 20000, 5000), 5000, 1, 0);
        TrimSheet lone = new TrimSheet();
        lone.hold(5000, 0);
        lone.slot(0, 0, 5000);
        dueFit("3 a floor of 0 under one slot", lone, 5000, 0, 0);
    }

    private static void fourHolds() {
        TrimSheet t = new TrimSheet();
        for (int h = 0; h < 4; h++) {
            due("3 no hold " + h + " yet", t.about(h, 0), TrimSheet.NONE);
            due("3 hold " + h, t.hold(h, 20000 - h), h);
            due("3 count", t.count(0), h + 1);
            due("3 empty", t.about(h, 0) + t.about(h, 1) + t.about(h, 2), 0);
            due("3 without slots", t.in(h, 0), TrimSheet.NONE);
        }
        Story told = story().then("hold", 1, 1).then("hold", 1, 1).then("hold", 1, 1);
        told.then("hold", 1, 1).then("slot", 3, 5, 5).then("item", 1, 0, 1).then("load", 0, 3, 0);
        changesNothing(told, "3 a fifth", TrimSheet.FULL, "hold", 0, 0);
        changesNothing(told, "3 a fifth", TrimSheet.FULL, "hold", 20000, 20000);
        for (int bad : new int[] {LEAST, -1, 20001, GREATEST}) {
            changesNothing(told, "3 bad is told before full", TrimSheet.BAD, "hold", bad, 0);
            changesNothing(told, "3 bad is told before full", TrimSheet.BAD, "hold", 0, bad);
        }
    }

    // ---- 4: SLOTS "8 at most, each with an ARM above that of the SLOT before, and a MOST"

    private static void slotMost() {
        for (int most : new int[] {0, 1, 2, 4999, 5000, 20000}) {
            TrimSheet t = new TrimSheet();
            t.hold(20000, 20000);
            due("4 most " + most, t.slot(0, 0, most), 0);
            for (int weight : new int[] {1, 2, 3, 4999, 5000}) {
                dueFit("4 most " + most, t, weight, 0, weight <= most ? 0 : 2);
            }
        }
    }

    private static void slotArmsRise() {
        Story told = story().then("hold", 100, 100).then("hold", 100, 100).then("slot", 0, 2500, 100);
        for (int arm : new int[] {LEAST, -1, 0, 2499, 2500, 5001, GREATEST}) {
            changesNothing(told, "4 arm", TrimSheet.BAD, "slot", 0, arm, 100);
        }
        due("4 one above", told.told().slot(0, 2501, 100), 1);
        due("4 as far as can be", told.told().slot(0, 5000, 100), 1);
        due("4 another hold starts anew", told.told().slot(1, 0, 100), 0);
        due("4 another hold starts anew", told.told().slot(1, 2500, 100), 0);
        changesNothing(told.then("slot", 0, 5000, 100), "4 none is above 5000", TrimSheet.BAD, "slot", 0, 5000, 100);
        changesNothing(told, "4 none is above 5000", TrimSheet.BAD, "slot", 0, 5001, 100);
        due("4 a refused arm does not count", story().then("hold", 9, 9).then("slot", 0, 4000, -1).told()
                .slot(0, 3, 9), 0);
    }

    private static void eightSlots() {
        Story told = story();
        for (int h = 0; h < 4; h++) {
            told.then("hold", 20000, 20000);
            for (int s = 0; s < 8; s++) {
                due("4 slot " + s, told.told().slot(h, 4992 + s, s), s);
                told.then("slot", h, 4992 + s, s);
            }
            changesNothing(told, "4 a ninth", TrimSheet.FULL, "slot", h, 5000, 20000);
            changesNothing(told, "4 bad is told before full", TrimSheet.BAD, "slot", h, 4999, 20000);
            changesNothing(told, "4 bad is told before full", TrimSheet.BAD, "slot", h, 5000, 20001);
            due("4 count", told.told().count(1), 8 * (h + 1));
        }
        changesNothing(told, "4 no fifth hold", TrimSheet.NONE, "slot", 4, 5000, 0);
    }

    // ---- 5: "Two KINDS (perhaps alike) may be told to be APART by d (1 .. 8)", "0: any way": what it was

    private static void apartForAllKinds() {
        TrimSheet t = new TrimSheet();
        for (int x = 0; x < 8; x++) {
            for (int y = x; y < 8; y++) {
                due(Calls.told("5 apart", x, y), t.apart(x, y, (x + 3 * y) % 9), 0);
            }
        }
        for (int x = 0; x < 8; x++) {
            for (int y = 0; y < 8; y++) {
                int d = (Math.min(x, y) + 3 * Math.max(x, y)) % 9;
                due(Calls.told("5 what it was", x, y), t.apart(x, y, d), d);
            }
        }
        for (int d = 0; d <= 8; d++) {
            t.apart(7, 0, d);
            due("5 the other way round", t.apart(0, 7, 0), d);
            due("5 any way again", t.apart(7, 0, 0), 0);
        }
        Story told = story().then("apart", 0, 7, 8).then("apart", 3, 3, 1);
        for (int d : new int[] {LEAST, -1, 9, GREATEST}) {
            changesNothing(told, "5 d", TrimSheet.BAD, "apart", 0, 7, d);
            changesNothing(told, "5 none is told before bad", TrimSheet.NONE, "apart", 0, 8, d);
            changesNothing(told, "5 none is told before bad", TrimSheet.NONE, "apart", -1, 0, d);
        }
    }

    // ---- 6: ITEMS "40 at most: WEIGHT 1 .. 5000, KIND 0 .. 7, STOP 1 .. 4"

    private static void itemBounds() {
        for (int weight : new int[] {1, 2, 4999, 5000}) {
            TrimSheet t = filled(20000, 20000, weight);
            due("6 weight " + weight, t.about(0, 0), weight);
        }
        for (int kind = 0; kind < 8; kind++) {
            TrimSheet t = new TrimSheet();
            t.hold(100, 100);
            t.slot(0, 0, 100);
            t.slot(0, 1, 100);
            t.item(1, kind, 1);
            t.apart(kind, kind, 2);
            t.load(0, 0, 0);
            for (int other = 0; other < 8; other++) {
                due("6 kinds " + kind + ", " + other, t.fits(t.item(1, other, 1), 0, 1), kind == other ? 5 : 0);
            }
        }
        for (int stop = 1; stop <= 4; stop++) {
            TrimSheet t = filled(20000, 20000);
            t.load(t.item(1, 0, stop), 0, 0);
            for (int at = 1; at <= 4; at++) {
                due("6 stop " + stop + " at " + at, t.arrive(at), at == stop ? 1 : 0);
            }
        }
    }

    private static void fortyItems() {
        Story told = story();
        for (int i = 0; i < 40; i++) {
            due("6 item " + i, told.told().item(1 + i, i % 8, 1 + i % 4), i);
            told.then("item", 1 + i, i % 8, 1 + i % 4);
            due("6 count", told.told().count(2), i + 1);
            due("6 not loaded", told.told().where(i), TrimSheet.NONE);
        }
        changesNothing(told, "6 a forty-first", TrimSheet.FULL, "item", 1, 0, 1);
        changesNothing(told, "6 a forty-first", TrimSheet.FULL, "item", 5000, 7, 4);
        changesNothing(told, "6 bad is told before none", TrimSheet.BAD, "item", 0, 8, 5);
        changesNothing(told, "6 bad is told before full", TrimSheet.BAD, "item", 5001, 0, 1);
        changesNothing(told, "6 none is told before full", TrimSheet.NONE, "item", 1, 8, 1);
        changesNothing(told, "6 none is told before full", TrimSheet.NONE, "item", 1, 0, 0);
        due("6 the fortieth can be loaded", told.then("hold", 40, 40).then("slot", 0, 0, 40).told().load(39, 0, 0), 0);
    }

    // ---- 7: ROWS "10 at most: an ARM, how many seats (1 .. 8), how many are taken"

    private static void rowBounds() {
        int[] seatsOf = {1, 8, 2, 7, 3, 6, 4, 5, 8, 1};
        Story told = story();
        for (int r = 0; r < 10; r++) {
            int arm = r % 2 == 0 ? 5000 - r : r - 1;
            int seats = seatsOf[r];
            due("7 row " + r, told.told().row(arm, seats), r);
            due("7 no row yet", told.told().seat(r, 0), TrimSheet.NONE);
            told.then("row", arm, seats);
            TrimSheet t = told.told();
            due("7 none is taken", t.seat(r, seats), 0);
            due("7 weight", t.weight(0), 1000 + 80 * seats);
            due("7 moment", t.moment(0), 80L * seats * arm);
            changesNothing(told, "7 more than it has", TrimSheet.BAD, "seat", r, seats + 1);
        }
        changesNothing(told, "7 an eleventh", TrimSheet.FULL, "row", 0, 1);
        changesNothing(told, "7 an eleventh", TrimSheet.FULL, "row", 5000, 8);
        for (int seats : new int[] {LEAST, -1, 0, 9, GREATEST}) {
            changesNothing(told, "7 bad is told before full", TrimSheet.BAD, "row", 0, seats);
            changesNothing(story(), "7 seats", TrimSheet.BAD, "row", 0, seats);
        }
    }

    // ---- 8: TANKS "4 at most: an ARM, a MOST (0 .. 20000), how much is in it"

    private static void tankBounds() {
        int[] mosts = {0, 1, 19999, 20000};
        int[] arms = {5000, 0, 4999, 1};
        Story told = story();
        for (int n = 0; n < 4; n++) {
            due("8 tank " + n, told.told().tank(arms[n], mosts[n]), n);
            due("8 no tank yet", told.told().fuel(n, 0), TrimSheet.NONE);
            told.then("tank", arms[n], mosts[n]);
            TrimSheet t = told.told();
            due("8 empty", t.weight(2), 0);
            due("11 its most", t.fuel(n, mosts[n]), 0);
            due("11 weight", t.weight(2), mosts[n]);
            due("11 moment", t.moment(2), (long) mosts[n] * arms[n]);
            due("11 what it was", t.fuel(n, 0), mosts[n]);
            changesNothing(told, "11 more than its most", TrimSheet.BAD, "fuel", n, mosts[n] + 1);
        }
        changesNothing(told, "8 a fifth", TrimSheet.FULL, "tank", 0, 0);
        changesNothing(told, "8 a fifth", TrimSheet.FULL, "tank", 5000, 20000);
        changesNothing(told, "8 bad is told before full", TrimSheet.BAD, "tank", 5001, 0);
        changesNothing(told, "8 bad is told before full", TrimSheet.BAD, "tank", 0, 20001);
    }

    // ---- 9: "A PASSENGER weighs PERSON (50 .. 150; 80 at first)"

    private static void personBounds() {
        Story told = story().then("row", 5000, 8).then("seat", 0, 8);
        due("9 80 at first", told.told().weight(0), 1640);
        int before = 80;
        for (int weight : new int[] {50, 51, 149, 150}) {
            due("9 what it was", told.told().person(weight), before);
            told.then("person", weight);
            before = weight;
            due("9 weight", told.told().weight(0), 1000 + 8 * weight);
            due("9 moment", told.told().moment(0), 8L * weight * 5000);
            due("9 count", told.told().count(7), weight);
        }
        for (int bad : new int[] {LEAST, -80, 0, 49, 151, GREATEST}) {
            changesNothing(told, "9", TrimSheet.BAD, "person", bad);
        }
    }

    // ---- 10: "So many seats of a ROW are taken: what it was. BAD: more than it has, below 0"

    private static void seatBounds() {
        for (int seats = 1; seats <= 8; seats++) {
            Story told = story().then("row", 100, seats).then("row", 100, 8).then("seat", 1, 8);
            TrimSheet t = told.told();
            due("10 all", t.seat(0, seats), 0);
            due("10 all", t.count(5), 8 + seats);
            due("10 none", t.seat(0, 0), seats);
            due("10 none", t.count(5), 8);
            told.then("seat", 0, seats - 1);
            changesNothing(told, "10 one more than it has", TrimSheet.BAD, "seat", 0, seats + 1);
            changesNothing(told, "10 one below none", TrimSheet.BAD, "seat", 0, -1);
            changesNothing(told, "10", TrimSheet.BAD, "seat", 0, GREATEST);
            changesNothing(told, "10", TrimSheet.BAD, "seat", 0, LEAST);
            changesNothing(told, "10 no third row", TrimSheet.NONE, "seat", 2, 0);
            changesNothing(told, "10 none is told before bad", TrimSheet.NONE, "seat", -1, 9);
        }
    }

    // ---- 11: "So much is in a TANK: what it was. BAD: more than MOST, below 0"

    private static void fuelBounds() {
        Story told = story().then("tank", 7, 20000).then("tank", 9, 0).then("fuel", 0, 20000);
        due("11 full", told.told().weight(2), 20000);
        due("11 one less", told.told().fuel(0, 19999), 20000);
        due("11 nothing in a tank for nothing", told.told().fuel(1, 0), 0);
        changesNothing(told, "11 one more", TrimSheet.BAD, "fuel", 0, 20001);
        changesNothing(told, "11 one more", TrimSheet.BAD, "fuel", 1, 1);
        changesNothing(told, "11 one below nothing", TrimSheet.BAD, "fuel", 0, -1);
        changesNothing(told, "11", TrimSheet.BAD, "fuel", 0, GREATEST);
        changesNothing(told, "11", TrimSheet.BAD, "fuel", 0, LEAST);
        changesNothing(told, "11 no third tank", TrimSheet.NONE, "fuel", 2, 0);
        changesNothing(told, "11 none is told before bad", TrimSheet.NONE, "fuel", -1, -1);
    }

    // ---- 12: "POINTS (10 at most), WEIGHTS rising, each with a least and a greatest ARM"

    private static void pointBounds() {
        for (int phase = 0; phase <= 1; phase++) {
            due("12 as little as can be", new TrimSheet().point(phase, 1, 0, 0), 1);
            due("12 as much as can be", new TrimSheet().point(phase, 1000000, 5000, 5000), 1);
            due("12 as wide as can be", new TrimSheet().point(phase, 1, 0, 5000), 1);
            Story told = story();
            for (int weight : new int[] {LEAST, -1, 0, 1000001, GREATEST}) {
                changesNothing(told, "12 weight", TrimSheet.BAD, "point", phase, weight, 0, 0);
            }
            for (int arm : new int[] {LEAST, -1, 5001, GREATEST}) {
                changesNothing(told, "12 least", TrimSheet.BAD, "point", phase, 1, arm, 5000);
                changesNothing(told, "12 greatest", TrimSheet.BAD, "point", phase, 1, 0, arm);
                changesNothing(told, "12 both", TrimSheet.BAD, "point", phase, 1, arm, arm);
            }
            changesNothing(told, "12 least above greatest", TrimSheet.BAD, "point", phase, 1, 1, 0);
            changesNothing(told, "12 least above greatest", TrimSheet.BAD, "point", phase, 1, 5000, 4999);
            for (int n = 1; n <= 10; n++) {
                due("12 how many", told.told().point(phase, 1000 + n, n, n), n);
                told.then("point", phase, 1000 + n, n, n);
            }
            changesNothing(told, "12 an eleventh", TrimSheet.FULL, "point", phase, 1011, 0, 0);
            changesNothing(told, "12 an eleventh", TrimSheet.FULL, "point", phase, 1000000, 0, 5000);
            changesNothing(told, "12 bad is told before full", TrimSheet.BAD, "point", phase, 1010, 0, 0);
            changesNothing(told, "12 bad is told before full", TrimSheet.BAD, "point", phase, 1011, 1, 0);
            due("12 the other phase has its own", told.told().point(1 - phase, 1, 0, 0), 1);
        }
    }

    private static void pointWeightsRise() {
        Story told = story().then("point", 1, 2000, 0, 5000);
        for (int weight : new int[] {1, 1999, 2000}) {
            changesNothing(told, "12 not above the last one's", TrimSheet.BAD, "point", 1, weight, 0, 5000);
        }
        due("12 one above", told.told().point(1, 2001, 0, 5000), 2);
        due("12 the other phase's do not matter", told.told().point(0, 1, 0, 5000), 1);
        told.then("point", 1, 1000000, 0, 5000);
        changesNothing(told, "12 none is above 1000000", TrimSheet.BAD, "point", 1, 1000000, 0, 5000);
        changesNothing(told, "12 none is above 1000000", TrimSheet.BAD, "point", 1, 1000001, 0, 5000);
    }

    // ---- 13: "A PHASE has no POINTS: how many it had"

    private static void wipeEmptyAndFull() {
        for (int phase = 0; phase <= 1; phase++) {
            Story told = story();
            due("13 it had none", told.told().wipe(phase), 0);
            told.then("point", 1 - phase, 1000, 0, 5000);
            for (int n = 1; n <= 10; n++) {
                told.then("point", phase, 1000 * n, 0, 5000);
                due("13 it had " + n, told.told().wipe(phase), n);
            }
            told.then("wipe", phase);
            due("13 it has none", told.told().within(phase), TrimSheet.STATE);
            due("13 the other phase stays", told.told().within(1 - phase), 0);
            for (int n = 1; n <= 10; n++) {
                due("13 anew, from 1 on", told.told().point(phase, n, 0, 0), n);
                told.then("point", phase, n, 0, 0);
            }
            changesNothing(told, "13 full again", TrimSheet.FULL, "point", phase, 11, 0, 0);
            for (int none : new int[] {LEAST, -1, 2, GREATEST}) {
                changesNothing(told, "13", TrimSheet.NONE, "wipe", none);
            }
        }
    }
}
