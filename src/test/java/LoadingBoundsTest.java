/** Promises 14 to 19 at their bounds: what just fits and what just does not, empty and full holds. */
public final class LoadingBoundsTest {
    private static final Checks CHECKS = new Checks();
    private static final int LEAST = Integer.MIN_VALUE, GREATEST = Integer.MAX_VALUE;

    private static void due(String call, long got, long want) {
        CHECKS.due(call, got, want);
    }

    public static void main(String[] args) {
        allReasonsInTheirOrder();
        slotTakesOneItem();
        holdMostIsOfThatHold();
        floorIsOfNeighbours();
        floorDoesNotReachTheNextHold();
        apartForEachDistance();
        apartIsOfOneHold();
        apartToldLater();
        loadAnswersAsFits();
        loadedOnesAreRefused();
        whatThereIsNot();
        unloadEmptyAndFull();
        allPlaces();
        aboutEmptyAndFull();
        aboutLessThanTwoSlots();
        CHECKS.end("LoadingBoundsTest");
    }

    private static void changesNothing(Story story, String why, long want, String name, int... numbers) {
        story.changesNothing(CHECKS, why, want, name, numbers);
    }

    /** Holds of eight slots each that bear all. */
    private static TrimSheet wide(int holds) {
        TrimSheet t = new TrimSheet();
        for (int h = 0; h < holds; h++) {
            t.hold(20000, 20000);
            for (int s = 0; s < 8; s++) {
                t.slot(h, s, 20000);
            }
        }
        return t;
    }

    // ---- 14: "0; 1 the SLOT is not free, 2 its MOST, 3 the HOLD's, 4 the FLOOR, 5 APART (the first one)"

    /**
     * An item of 10 next to one of 100, with each mixture of the five reasons: each is missed by one
     * measure, or just not.
     */
    private static void allReasonsInTheirOrder() {
        for (int reasons = 0; reasons < 32; reasons++) {
            boolean isTaken = (reasons & 1) != 0;
            int slotMost = (reasons & 2) != 0 ? 9 : 10;
            int lying = isTaken ? 101 : 100;
            int holdMost = lying + ((reasons & 4) != 0 ? 9 : 10);
            int floor = 100 + ((reasons & 8) != 0 ? 9 : 10);
            int distance = (reasons & 16) != 0 ? 2 : 1;
            Story told = new Story().then("hold", holdMost, floor);
            told.then("slot", 0, 1, 100).then("slot", 0, 2, slotMost);
            told.then("item", 100, 6, 1).then("item", 10, 7, 1).then("item", 1, 0, 1);
            told.then("apart", 7, 6, distance).then("load", 0, 0, 0);
            if (isTaken) {
                told.then("load", 2, 0, 1);
            }
            told.mustBeGood(CHECKS);
            int want = reasons == 0 ? 0 : 1 + Integer.numberOfTrailingZeros(reasons);
            changesNothing(told, "14 reasons " + reasons, want, "fits", 1, 0, 1);
            due("15 reasons " + reasons, told.told().load(1, 0, 1), want);
            if (want != 0) {
                changesNothing(told, "15 reasons " + reasons, want, "load", 1, 0, 1);
            }
        }
    }

    private static void slotTakesOneItem() {
        TrimSheet t = wide(4);
        for (int i = 0; i < 32; i++) {
            t.item(1, 0, 1);
            due("14 the slot is free", t.fits(i, i / 8, i % 8), 0);
            t.load(i, i / 8, i % 8);
        }
        t.item(1, 0, 1);
        for (int place = 0; place < 32; place++) {
            due("14 all slots are taken", t.fits(32, place / 8, place % 8), 1);
        }
        t.unload(31);
        due("14 free again", t.fits(32, 3, 7), 0);
        due("14 free for the same one again", t.fits(31, 3, 7), 0);
    }

    private static void holdMostIsOfThatHold() {
        Story told = new Story().then("hold", 10, 20000).then("hold", 10, 20000);
        told.then("slot", 0, 1, 10).then("slot", 0, 2, 10).then("slot", 1, 1, 10).then("slot", 1, 2, 10);
        told.then("item", 9, 0, 1).then("item", 1, 0, 1).then("item", 2, 0, 1).then("item", 10, 0, 1);
        told.then("load", 0, 0, 0);
        due("14 just the hold's most", told.told().fits(1, 0, 1), 0);
        due("14 one above the hold's most", told.told().fits(2, 0, 1), 3);
        due("14 the other hold is empty", told.told().fits(3, 1, 1), 0);
        told.then("unload", 0);
        due("14 empty again", told.told().fits(3, 0, 1), 0);
    }

    private static void floorIsOfNeighbours() {
        for (int lies = 0; lies < 8; lies++) {
            TrimSheet t = new TrimSheet();
            t.hold(20000, 100);
            for (int s = 0; s < 8; s++) {
                t.slot(0, s, 100);
            }
            t.item(60, 0, 1);
            t.item(40, 0, 1);
            t.item(41, 0, 1);
            t.load(0, 0, lies);
            for (int s = 0; s < 8; s++) {
                int steps = Math.abs(s - lies);
                due("14 just the floor, from " + lies + " to " + s, t.fits(1, 0, s), steps == 0 ? 1 : 0);
                due("14 one above it, from " + lies + " to " + s, t.fits(2, 0, s), steps == 0 ? 1 : steps == 1 ? 4 : 0);
            }
        }
        TrimSheet between = wide(1);
        between.hold(20000, 100);
        for (int s = 0; s < 3; s++) {
            between.slot(1, s, 100);
        }
        between.item(60, 0, 1);
        between.item(50, 0, 1);
        between.item(40, 0, 1);
        between.item(41, 0, 1);
        between.load(0, 1, 0);
        between.load(1, 1, 2);
        due("14 between two", between.fits(2, 1, 1), 0);
        due("14 between two, too much with the one before", between.fits(3, 1, 1), 4);
        between.unload(0);
        between.unload(1);
        between.load(1, 1, 0);
        between.load(0, 1, 2);
        due("14 between two, too much with the one behind", between.fits(3, 1, 1), 4);
    }

    private static void floorDoesNotReachTheNextHold() {
        TrimSheet t = new TrimSheet();
        for (int h = 0; h < 3; h++) {
            t.hold(20000, 100);
            for (int s = 0; s < 8; s++) {
                t.slot(h, s, 100);
            }
        }
        t.item(100, 0, 1);
        t.item(100, 0, 1);
        t.apart(0, 0, 8);
        t.load(0, 1, 0);
        due("14 the last slot of the hold before", t.fits(1, 0, 7), 0);
        t.unload(0);
        t.load(0, 1, 7);
        due("14 the first slot of the hold behind", t.fits(1, 2, 0), 0);
    }

    /** "in one HOLD there must be d SLOTS or more from one to the other: |i - j| >= d" */
    private static void apartForEachDistance() {
        for (int d = 0; d <= 8; d++) {
            for (int lies = 0; lies < 8; lies++) {
                TrimSheet t = wide(1);
                t.item(1, 7, 1);
                t.item(1, 0, 1);
                t.item(1, 7, 1);
                t.item(1, 1, 1);
                t.apart(0, 7, d);
                t.apart(7, 7, 8 - d);
                t.load(0, 0, lies);
                for (int s = 0; s < 8; s++) {
                    int steps = Math.abs(s - lies);
                    String told = "14 by " + d + " from " + lies + " to " + s;
                    due(told, t.fits(1, 0, s), steps == 0 ? 1 : steps >= d ? 0 : 5);
                    due(told + " alike", t.fits(2, 0, s), steps == 0 ? 1 : steps >= 8 - d ? 0 : 5);
                    due(told + " a third kind", t.fits(3, 0, s), steps == 0 ? 1 : 0);
                }
            }
        }
    }

    private static void apartIsOfOneHold() {
        TrimSheet t = wide(4);
        t.item(1, 3, 1);
        t.item(1, 3, 1);
        t.apart(3, 3, 8);
        t.load(0, 1, 4);
        for (int place = 0; place < 32; place++) {
            int want = place == 12 ? 1 : place / 8 == 1 ? 5 : 0;
            due("14 apart by 8, place " + place, t.fits(1, place / 8, place % 8), want);
        }
    }

    private static void apartToldLater() {
        TrimSheet t = wide(1);
        t.item(1, 0, 1);
        t.item(1, 1, 1);
        t.load(0, 0, 0);
        t.load(1, 0, 1);
        due("5 those that lie too near may be told so", t.apart(0, 1, 8), 0);
        due("5 they stay", t.where(1), 1);
        due("14 one of them out and in", t.unload(1), 0);
        due("14 one of them out and in", t.load(1, 0, 1), 5);
        due("5 any way again", t.apart(1, 0, 0), 8);
        due("14 one of them in", t.load(1, 0, 1), 0);
    }

    // ---- 15: "It is LOADED: as fits() (0: done). NONE; STATE"

    private static void loadAnswersAsFits() {
        TrimSheet t = new TrimSheet();
        t.hold(150, 120);
        for (int s = 0; s < 5; s++) {
            t.slot(0, s, 20 * (s + 1));
        }
        for (int i = 0; i < 12; i++) {
            t.item(10 * (i + 1), i % 3, 1);
        }
        t.apart(0, 1, 2);
        t.apart(2, 2, 4);
        for (int n = 0; n < 60; n++) {
            int item = n % 12;
            int slot = n * 7 % 5;
            int before = t.count(3);
            int fits = t.fits(item, 0, slot);
            due("15 as fits " + n, t.load(item, 0, slot), fits);
            due("15 loaded or not " + n, t.count(3), before + (fits == 0 ? 1 : 0));
            if (fits == 0) {
                due("15 where it lies " + n, t.where(item), slot);
                due("15 what lies there " + n, t.in(0, slot), item);
            }
        }
    }

    private static Story oneLoaded() {
        Story told = new Story().then("hold", 100, 100).then("slot", 0, 1, 100).then("slot", 0, 2, 100);
        return told.then("item", 5, 0, 1).then("item", 6, 0, 1).then("load", 0, 0, 0);
    }

    private static void loadedOnesAreRefused() {
        Story told = oneLoaded();
        for (String call : new String[] {"fits", "load"}) {
            changesNothing(told, "14, 15 to a free slot", TrimSheet.STATE, call, 0, 0, 1);
            changesNothing(told, "14, 15 to its own slot", TrimSheet.STATE, call, 0, 0, 0);
            changesNothing(told, "14, 15 none is told before state", TrimSheet.NONE, call, 0, 0, 2);
            changesNothing(told, "14, 15 none is told before state", TrimSheet.NONE, call, 0, 1, 0);
        }
    }

    private static void whatThereIsNot() {
        Story told = oneLoaded();
        for (int none : new int[] {LEAST, -1, 2, 39, 40, GREATEST}) {
            changesNothing(told, "14 item", TrimSheet.NONE, "fits", none, 0, 1);
            changesNothing(told, "14 hold", TrimSheet.NONE, "fits", 1, none, 1);
            changesNothing(told, "14 slot", TrimSheet.NONE, "fits", 1, 0, none);
            changesNothing(told, "15 item", TrimSheet.NONE, "load", none, 0, 1);
            changesNothing(told, "15 hold", TrimSheet.NONE, "load", 1, none, 1);
            changesNothing(told, "15 slot", TrimSheet.NONE, "load", 1, 0, none);
            changesNothing(told, "16 item", TrimSheet.NONE, "unload", none);
            changesNothing(told, "17 item", TrimSheet.NONE, "where", none);
            changesNothing(told, "18 hold", TrimSheet.NONE, "in", none, 0);
            changesNothing(told, "18 slot", TrimSheet.NONE, "in", 0, none);
            changesNothing(told, "19 hold", TrimSheet.NONE, "about", none, 0);
        }
        for (int none : new int[] {LEAST, -1, 3, GREATEST}) {
            changesNothing(told, "19 what", TrimSheet.NONE, "about", 0, none);
        }
        changesNothing(told, "17 not loaded", TrimSheet.NONE, "where", 1);
        changesNothing(told, "18 free", TrimSheet.NONE, "in", 0, 1);
        // Places are counted on from hold to hold; a number beyond its hold's slots must not reach the next one.
        told.then("hold", 100, 100).then("slot", 1, 1, 100).then("load", 1, 1, 0);
        changesNothing(told, "18 slot 8 of hold 0", TrimSheet.NONE, "in", 0, 8);
        changesNothing(told, "18 slot -8 of hold 1", TrimSheet.NONE, "in", 1, -8);
    }

    // ---- 16: "An ITEM is LOADED no more: 0. NONE; STATE: it was not"

    private static void unloadEmptyAndFull() {
        Story told = oneLoaded();
        changesNothing(told, "16 it was not", TrimSheet.STATE, "unload", 1);
        TrimSheet t = told.told();
        due("16 out", t.unload(0), 0);
        due("16 it was not any more", t.unload(0), TrimSheet.STATE);
        due("16 none is loaded", t.count(3), 0);
        due("16 weight", t.weight(0), 1000);
        TrimSheet full = wide(4);
        for (int i = 0; i < 32; i++) {
            full.item(1 + i, 0, 1);
            full.load(i, i / 8, i % 8);
        }
        for (int i = 0; i < 32; i++) {
            due("16 out of a full aircraft", full.unload(i), 0);
            due("16 the others stay", full.count(3), 31 - i);
            due("16 its slot is free", full.in(i / 8, i % 8), TrimSheet.NONE);
            due("16 it lies nowhere", full.where(i), TrimSheet.NONE);
        }
    }

    // ---- 17, 18: "8 times the HOLD and the SLOT", "The ITEM in a SLOT"

    private static void allPlaces() {
        TrimSheet t = wide(4);
        for (int i = 0; i < 40; i++) {
            t.item(1, 0, 1);
        }
        for (int place = 0; place < 32; place++) {
            int item = 39 - place;
            due("18 free " + place, t.in(place / 8, place % 8), TrimSheet.NONE);
            due("17 not loaded " + item, t.where(item), TrimSheet.NONE);
            due("15 loaded", t.load(item, place / 8, place % 8), 0);
        }
        for (int place = 0; place < 32; place++) {
            due("17 where " + place, t.where(39 - place), place);
            due("18 in " + place, t.in(place / 8, place % 8), 39 - place);
        }
        for (int item = 0; item < 8; item++) {
            due("17 one for which there is no slot", t.where(item), TrimSheet.NONE);
        }
    }

    // ---- 19: WEIGHT, how many ITEMS, "the most that two neighbouring SLOTS have together (0: it has less than two)"

    private static void dueAbout(String call, TrimSheet t, int hold, int weight, int items, int pair) {
        due(call + " weight", t.about(hold, 0), weight);
        due(call + " items", t.about(hold, 1), items);
        due(call + " pair", t.about(hold, 2), pair);
    }

    private static void aboutEmptyAndFull() {
        TrimSheet t = wide(4);
        dueAbout("19 empty", t, 0, 0, 0, 0);
        int weight = 0;
        for (int s = 0; s < 8; s++) {
            int own = s == 4 ? 1000 : 100 + s;
            t.load(t.item(own, 0, 1), 1, s);
            weight += own;
            int pair = s == 0 ? 100 : s < 4 ? 2 * s + 199 : s == 4 ? 1103 : 1105;
            dueAbout("19 with " + (s + 1), t, 1, weight, s + 1, pair);
        }
        dueAbout("19 another hold", t, 0, 0, 0, 0);
        dueAbout("19 another hold", t, 2, 0, 0, 0);
        t.load(t.item(5000, 0, 1), 0, 7);
        dueAbout("19 the last slot of one hold and the first of the next are no neighbours", t, 0, 5000, 1, 5000);
        for (int slot : new int[] {0, 2, 5, 7}) {
            t.load(t.item(5000, 0, 1), 3, slot);
        }
        dueAbout("19 as much as can be, none next to another", t, 3, 20000, 4, 5000);
    }

    private static void aboutLessThanTwoSlots() {
        TrimSheet t = new TrimSheet();
        t.hold(5000, 0);
        dueAbout("19 no slot", t, 0, 0, 0, 0);
        t.slot(0, 0, 5000);
        dueAbout("19 one slot", t, 0, 0, 0, 0);
        t.load(t.item(5000, 0, 1), 0, 0);
        dueAbout("19 one slot, taken", t, 0, 5000, 1, 0);
        t.slot(0, 1, 5000);
        dueAbout("19 two slots, one of them taken", t, 0, 5000, 1, 5000);
    }
}
