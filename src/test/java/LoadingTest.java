/** Promises 14 to 19: loading. */
public final class LoadingTest {
    private static final Checks CHECKS = new Checks();

    private static void due(String call, long got, long want) {
        CHECKS.due(call, got, want);
    }

    public static void main(String[] args) {
        fitsByWeight();
        fitsByFloor();
        fitsApart();
        fitsFirstReason();
        fitsRefusals();
        load();
        unload();
        whereAndIn();
        about();
        CHECKS.end("LoadingTest");
    }

    /** One hold with slots at arms 100, 200, .. of one MOST. */
    private static TrimSheet oneHold(int most, int floor, int slots, int slotMost) {
        TrimSheet t = new TrimSheet();
        t.hold(most, floor);
        for (int s = 0; s < slots; s++) {
            t.slot(0, 100 * (s + 1), slotMost);
        }
        return t;
    }

    private static void fitsByWeight() {
        TrimSheet t = oneHold(150, 1000, 3, 100);
        t.item(100, 0, 1);
        t.item(101, 0, 1);
        t.item(50, 0, 1);
        t.item(51, 0, 1);
        due("14 just the slot's most", t.fits(0, 0, 0), 0);
        due("14 above the slot's most", t.fits(1, 0, 0), 2);
        t.load(0, 0, 0);
        due("14 not free", t.fits(2, 0, 0), 1);
        due("14 just the hold's most", t.fits(2, 0, 2), 0);
        due("14 above the hold's most", t.fits(3, 0, 2), 3);
        due("14 changes nothing", t.count(3), 1);
    }

    private static void fitsByFloor() {
        TrimSheet t = oneHold(10000, 150, 4, 5000);
        t.item(100, 0, 1);
        t.item(50, 0, 1);
        t.item(51, 0, 1);
        t.item(151, 0, 1);
        due("14 alone above the floor", t.fits(3, 0, 3), 4);
        t.load(0, 0, 1);
        due("14 just the floor before", t.fits(1, 0, 0), 0);
        due("14 just the floor behind", t.fits(1, 0, 2), 0);
        due("14 above the floor before", t.fits(2, 0, 0), 4);
        due("14 above the floor behind", t.fits(2, 0, 2), 4);
        due("14 no neighbour", t.fits(2, 0, 3), 0);
        TrimSheet lone = oneHold(10000, 0, 1, 5000);
        lone.item(5000, 0, 1);
        due("14 a lone slot has no neighbour", lone.fits(0, 0, 0), 0);
    }

    private static void fitsApart() {
        TrimSheet t = oneHold(10000, 10000, 8, 5000);
        t.hold(10000, 10000);
        t.slot(1, 0, 5000);
        t.item(1, 2, 1);
        t.item(1, 5, 1);
        t.item(1, 2, 1);
        t.apart(5, 2, 3);
        t.apart(2, 2, 1);
        t.load(0, 0, 3);
        int[] withOther = {0, 5, 5, 1, 5, 5, 0, 0};
        for (int s = 0; s < 8; s++) {
            due("14 kinds apart by 3, slot " + s, t.fits(1, 0, s), withOther[s]);
        }
        due("14 another hold", t.fits(1, 1, 0), 0);
        due("14 alike kinds apart by 1", t.fits(2, 0, 4), 0);
        t.apart(2, 2, 2);
        due("14 alike kinds apart by 2", t.fits(2, 0, 4), 5);
        due("14 alike kinds apart by 2, next", t.fits(2, 0, 5), 0);
        t.apart(2, 5, 0);
        due("14 any way", t.fits(1, 0, 4), 0);
        t.apart(2, 5, 8);
        due("14 apart by 8", t.fits(1, 0, 7), 5);
        t.load(2, 0, 5);
        t.apart(2, 2, 8);
        t.apart(2, 5, 0);
        due("14 others that lie too near do not hinder it", t.fits(1, 0, 4), 0);
    }

    private static void fitsFirstReason() {
        TrimSheet t = oneHold(10, 10, 2, 10);
        t.item(10, 0, 1);
        t.item(11, 0, 1);
        t.item(10, 0, 1);
        t.apart(0, 0, 8);
        t.load(0, 0, 0);
        due("14 first 1", t.fits(1, 0, 0), 1);
        due("14 first 2", t.fits(1, 0, 1), 2);
        due("14 first 3", t.fits(2, 0, 1), 3);
        TrimSheet floor = oneHold(100, 10, 2, 10);
        floor.item(10, 0, 1);
        floor.item(10, 0, 1);
        floor.apart(0, 0, 8);
        floor.load(0, 0, 0);
        due("14 first 4", floor.fits(1, 0, 1), 4);
    }

    private static void fitsRefusals() {
        TrimSheet t = oneHold(100, 100, 2, 100);
        t.item(10, 0, 1);
        t.load(0, 0, 0);
        int[][] none = {{-1, 0, 0}, {1, 0, 0}, {0, -1, 0}, {0, 1, 0}, {0, 0, -1}, {0, 0, 2},
            {0, 0, 8}, {0, 4, 0}, {Integer.MAX_VALUE, Integer.MAX_VALUE, Integer.MAX_VALUE}};
        for (int[] n : none) {
            String told = "(" + n[0] + ", " + n[1] + ", " + n[2] + ")";
            due("14 fits" + told, t.fits(n[0], n[1], n[2]), TrimSheet.NONE);
            due("15 load" + told, t.load(n[0], n[1], n[2]), TrimSheet.NONE);
        }
        due("14 loaded", t.fits(0, 0, 1), TrimSheet.STATE);
        due("15 loaded", t.load(0, 0, 1), TrimSheet.STATE);
        due("15 changes nothing", t.where(0), 0);
    }

    private static void load() {
        TrimSheet t = oneHold(300, 150, 3, 120);
        t.item(120, 0, 1);
        t.item(121, 0, 1);
        t.item(31, 0, 1);
        t.item(30, 1, 1);
        t.apart(0, 1, 2);
        due("15 2", t.load(1, 0, 0), 2);
        due("15 done", t.load(0, 0, 0), 0);
        due("15 1", t.load(2, 0, 0), 1);
        due("15 4", t.load(2, 0, 1), 4);
        due("15 5", t.load(3, 0, 1), 5);
        due("15 only one is loaded", t.count(3), 1);
        due("15 done", t.load(3, 0, 2), 0);
        due("15 weight", t.weight(0), 1150);
        due("15 moment", t.moment(0), 120 * 100 + 30 * 300);
        TrimSheet full = oneHold(120, 200, 2, 120);
        full.item(120, 0, 1);
        full.item(1, 0, 1);
        full.load(0, 0, 0);
        due("15 3", full.load(1, 0, 1), 3);
    }

    private static void unload() {
        TrimSheet t = oneHold(100, 100, 2, 100);
        t.item(10, 0, 1);
        due("16 was not loaded", t.unload(0), TrimSheet.STATE);
        due("16 no item", t.unload(1), TrimSheet.NONE);
        due("16 no item -1", t.unload(-1), TrimSheet.NONE);
        t.load(0, 0, 1);
        due("16 unloaded", t.unload(0), 0);
        due("16 the slot is free", t.in(0, 1), TrimSheet.NONE);
        due("16 nowhere", t.where(0), TrimSheet.NONE);
        due("16 again", t.unload(0), TrimSheet.STATE);
        due("16 can be loaded again", t.load(0, 0, 1), 0);
    }

    private static void whereAndIn() {
        TrimSheet t = new TrimSheet();
        for (int h = 0; h < 4; h++) {
            t.hold(1000, 1000);
            for (int s = 0; s < 8; s++) {
                t.slot(h, s, 1000);
            }
        }
        t.item(1, 0, 1);
        t.item(2, 0, 1);
        due("17 not loaded", t.where(0), TrimSheet.NONE);
        due("17 no item", t.where(2), TrimSheet.NONE);
        due("17 no item -1", t.where(-1), TrimSheet.NONE);
        due("18 free", t.in(3, 7), TrimSheet.NONE);
        t.load(0, 3, 7);
        t.load(1, 2, 5);
        due("17 where(0)", t.where(0), 31);
        due("17 where(1)", t.where(1), 21);
        due("18 in(3, 7)", t.in(3, 7), 0);
        due("18 in(2, 5)", t.in(2, 5), 1);
        due("18 free", t.in(2, 6), TrimSheet.NONE);
        due("18 no hold", t.in(4, 0), TrimSheet.NONE);
        due("18 no hold -1", t.in(-1, 0), TrimSheet.NONE);
        due("18 no slot", t.in(2, 8), TrimSheet.NONE);
        due("18 no slot 13", t.in(1, 13), TrimSheet.NONE);
        due("18 no slot -1", t.in(3, -3), TrimSheet.NONE);
    }

    private static void about() {
        TrimSheet t = oneHold(1000, 1000, 4, 1000);
        t.hold(1000, 0);
        t.slot(1, 10, 1000);
        t.hold(5, 5);
        t.item(100, 0, 1);
        t.item(70, 0, 1);
        t.item(200, 0, 1);
        t.load(0, 0, 0);
        t.load(1, 0, 3);
        due("19 weight", t.about(0, 0), 170);
        due("19 items", t.about(0, 1), 2);
        due("19 pair", t.about(0, 2), 100);
        t.load(2, 1, 0);
        due("19 weight of another", t.about(1, 0), 200);
        due("19 items of another", t.about(1, 1), 1);
        due("19 less than two slots", t.about(1, 2), 0);
        due("19 no slot", t.about(2, 2), 0);
        t.unload(2);
        t.load(2, 0, 2);
        due("19 the heaviest pair", t.about(0, 2), 270);
        due("19 no hold", t.about(3, 0), TrimSheet.NONE);
        due("19 no hold -1", t.about(-1, 0), TrimSheet.NONE);
        due("19 what 3", t.about(0, 3), TrimSheet.NONE);
        due("19 what -1", t.about(0, -1), TrimSheet.NONE);
    }
}
