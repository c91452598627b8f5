/** Promises 26 to 32 at their bounds: nothing and all, alike choices, 50 times, 4 items, 10 slots, 80 passengers. */
public final class RulesBoundsTest {
    private static final Checks CHECKS = new Checks();
    private static final int LEAST = Integer.MIN_VALUE, GREATEST = Integer.MAX_VALUE;
    private static final int[] BAD_ARMS = {LEAST, -1, 5001, GREATEST};

    private static void due(String call, long got, long want) {
        CHECKS.due(call, got, want);
    }

    public static void main(String[] args) {
        pushedInEveryOrder();
        pushedIsOfOneHold();
        pushedChangesNothing();
        pushedFull();
        arriveNoneAndAll();
        stopsThereAreNot();
        loadAllNothing();
        loadAllMoreThanThereIsRoom();
        loadAllAlikeWeights();
        loadAllAlikeSlots();
        loadAllBothSides();
        loadAllOneByOne();
        loadAllToTheLeastAndTheGreatestArm();
        loadAllOneStays();
        betterNothing();
        betterNotNearer();
        betterFiftyTimes();
        betterFirstOfSeveral();
        betterOnlyWhereItFits();
        betterSwapsThatJustFit();
        betterTakesOutWhatMoves();
        bestItemsAtMost();
        bestSlotsAtMost();
        bestAlikeWays();
        bestCountsWhatLiesThere();
        bestAgainAndAgain();
        bestNoWayAtAll();
        lateNoneAndAll();
        lateAlikeRows();
        lateOneSeatLeft();
        armsOfTheRules();
        countEmptyAndFull();
        CHECKS.end("RulesBoundsTest");
    }

    private static void changesNothing(Story story, String why, long want, String name, int... numbers) {
        story.changesNothing(CHECKS, why, want, name, numbers);
    }

    /** An aircraft of 1000 at arm 1000, with a hold that bears all and slots at these arms. */
    private static Story at(int... arms) {
        return hold(new Story().then("empty", 1000, 1000), 0, arms);
    }

    private static Story hold(Story told, int hold, int... arms) {
        told.then("hold", 20000, 20000);
        for (int arm : arms) {
            told.then("slot", hold, arm, 20000);
        }
        return told;
    }

    private static Story items(Story told, int... weights) {
        for (int weight : weights) {
            told.then("item", weight, 0, 1);
        }
        return told;
    }

    private static void dueWhere(String call, TrimSheet t, int... places) {
        for (int i = 0; i < places.length; i++) {
            due(call + ", item " + i, t.where(i), places[i]);
        }
    }

    // ---- 26: "PUSHED is each other one that lies in a SLOT with a lesser number than some such one of its HOLD"

    /** Each way to have five slots free or taken for the four stops. */
    private static void pushedInEveryOrder() {
        int[] stops = new int[5];
        for (int way = 0; way < 3125; way++) {
            int rest = way;
            TrimSheet t = new TrimSheet();
            t.hold(20000, 20000);
            for (int s = 0; s < 5; s++) {
                stops[s] = rest % 5;
                rest /= 5;
                t.slot(0, s, 20000);
                if (stops[s] > 0) {
                    t.load(t.item(1, 0, stops[s]), 0, s);
                }
            }
            int together = 0;
            for (int stop = 1; stop <= 4; stop++) {
                int want = pushedOf(stops, stop);
                together += want;
                due("26 way " + way + " stop " + stop, t.pushed(stop), want);
            }
            due("26 way " + way, t.pushed(0), together);
        }
    }

    private static int pushedOf(int[] stops, int stop) {
        int last = -1;
        for (int s = 0; s < stops.length; s++) {
            last = stops[s] == stop ? s : last;
        }
        int pushed = 0;
        for (int s = 0; s < last; s++) {
            pushed += stops[s] > stop ? 1 : 0;
        }
        return pushed;
    }

    private static void pushedIsOfOneHold() {
        TrimSheet t = new TrimSheet();
        for (int h = 0; h < 4; h++) {
            t.hold(20000, 20000);
            for (int s = 0; s < 8; s++) {
                t.slot(h, s, 20000);
            }
        }
        t.load(t.item(1, 0, 4), 0, 0);
        t.load(t.item(1, 0, 1), 1, 7);
        due("26 of another hold", t.pushed(0), 0);
        t.load(t.item(1, 0, 1), 0, 7);
        due("26 over six free slots", t.pushed(1), 1);
        t.item(1, 0, 2);
        t.item(1, 0, 1);
        due("26 those that are not loaded", t.pushed(0), 1);
        t.arrive(1);
        due("26 gone", t.pushed(0), 0);
    }

    private static void pushedChangesNothing() {
        Story told = items(at(1, 2, 3), 5).then("item", 6, 0, 2).then("load", 0, 0, 2).then("load", 1, 0, 0);
        for (int stop = 0; stop <= 4; stop++) {
            changesNothing(told, "26 it is put back where it was", stop < 2 ? 1 : 0, "pushed", stop);
        }
    }

    private static void pushedFull() {
        TrimSheet t = new TrimSheet();
        for (int h = 0; h < 4; h++) {
            t.hold(20000, 20000);
            for (int s = 0; s < 8; s++) {
                t.slot(h, s, 20000);
                t.load(t.item(1, 0, 4 - s / 2), h, s);
            }
        }
        int[] want = {4 * 12, 4 * 6, 4 * 4, 4 * 2, 0};
        for (int stop = 0; stop <= 4; stop++) {
            due("26 full, stop " + stop, t.pushed(stop), want[stop]);
        }
    }

    // ---- 27: "All LOADED ITEMS of a STOP are LOADED no more: how many"

    private static void arriveNoneAndAll() {
        TrimSheet t = new TrimSheet();
        for (int stop = 1; stop <= 4; stop++) {
            due("27 nothing there", t.arrive(stop), 0);
        }
        for (int h = 0; h < 4; h++) {
            t.hold(20000, 20000);
            for (int s = 0; s < 8; s++) {
                t.slot(h, s, 20000);
                t.load(t.item(10, 0, h == 3 ? 4 : 3), h, s);
            }
        }
        t.item(10, 0, 3);
        due("27 none of that stop", t.arrive(1), 0);
        due("27 all of that stop", t.arrive(3), 24);
        due("27 the others stay", t.count(3), 8);
        due("27 the others stay", t.where(31), 31);
        due("27 once more", t.arrive(3), 0);
        due("27 the rest", t.arrive(4), 8);
        due("27 weight", t.weight(0), 1000);
        due("27 they can be loaded again", t.load(0, 3, 7), 0);
        due("27 all are there still", t.count(2), 33);
    }

    private static void stopsThereAreNot() {
        Story told = items(at(1, 2), 5).then("load", 0, 0, 1);
        for (int none : new int[] {LEAST, -1, 5, 33, GREATEST}) {
            changesNothing(told, "26", TrimSheet.NONE, "pushed", none);
            changesNothing(told, "27", TrimSheet.NONE, "arrive", none);
        }
        changesNothing(told, "27", TrimSheet.NONE, "arrive", 0);
        due("26 stop 0 is all together", told.told().pushed(0), 0);
    }

    // ---- 28: "All are LOADED, to an ARM: how many were"

    private static void loadAllNothing() {
        due("28 no hold, no item", new TrimSheet().loadAll(0), 0);
        due("28 no item", at(1, 2).told().loadAll(0), 0);
        changesNothing(items(new Story(), 5), "28 no hold", 0, "loadAll", 0);
        changesNothing(items(at(), 5), "28 no slot", 0, "loadAll", 0);
        changesNothing(items(at(1), 5, 6).then("load", 0, 0, 0), "28 no free slot", 0, "loadAll", 0);
        changesNothing(items(at(1, 2), 5).then("load", 0, 0, 0), "28 all are loaded", 0, "loadAll", 0);
    }

    private static void loadAllMoreThanThereIsRoom() {
        TrimSheet t = new TrimSheet();
        for (int h = 0; h < 4; h++) {
            t.hold(20000, 20000);
            for (int s = 0; s < 8; s++) {
                t.slot(h, 10 * h + s, 20000);
            }
        }
        for (int i = 0; i < 40; i++) {
            t.item(1 + i, 0, 1);
        }
        due("28 forty items, 32 slots", t.loadAll(5000), 32);
        for (int i = 0; i < 40; i++) {
            // The heaviest takes what is farthest behind; the lightest find nothing.
            due("28 heaviest first, item " + i, t.where(i), i < 8 ? TrimSheet.NONE : i - 8);
        }
        due("28 again", t.loadAll(5000), 0);
    }

    private static void loadAllAlikeWeights() {
        TrimSheet t = items(at(100, 200, 300, 400), 7, 9, 7, 9).told();
        due("28 alike weights", t.loadAll(5000), 4);
        dueWhere("28 heaviest first, of alike ones the least number", t, 1, 3, 0, 2);
    }

    /** "of several that of the least HOLD, then SLOT" */
    private static void loadAllAlikeSlots() {
        Story told = at(900, 1000, 1100);
        hold(told, 1, 500, 1000);
        hold(told, 2, 1000);
        TrimSheet t = items(told, 10, 10, 10, 10, 10).told();
        due("28 alike slots", t.loadAll(1000), 5);
        dueWhere("28 the least hold, then the least slot", t, 1, 9, 16, 0, 2);
        TrimSheet taken = told.then("load", 4, 0, 1).told();
        due("28 alike slots, the first one taken", taken.loadAll(1000), 4);
        dueWhere("28 the least hold that is free", taken, 9, 16, 0, 2);
    }

    /** As far in front as behind: the distance decides, not the side. */
    private static void loadAllBothSides() {
        TrimSheet alike = items(at(800, 1200), 10).told();
        due("28 both sides alike", alike.loadAll(1000), 1);
        due("28 the first of both", alike.where(0), 0);
        TrimSheet behind = items(at(800, 1199), 10).told();
        due("28 the side behind is nearer", behind.loadAll(1000), 1);
        due("28 the one behind", behind.where(0), 1);
        TrimSheet front = items(at(801, 1200), 10).told();
        due("28 the side in front is nearer", front.loadAll(1000), 1);
        due("28 the one in front", front.where(0), 0);
        TrimSheet beyond = items(at(0, 900, 1000), 500).told();
        due("28 away from the arm is not nearest", beyond.loadAll(900), 1);
        due("28 the dry arm counts, not the slot's", beyond.where(0), 1);
        TrimSheet over = items(at(0, 400, 600), 500).told();
        due("28 the dry arm, not the slot's", over.loadAll(800), 1);
        due("28 400 brings it just to 800", over.where(0), 1);
    }

    /** Each one that is loaded moves the dry arm for the next one. */
    private static void loadAllOneByOne() {
        TrimSheet t = items(hold(at(900, 1100), 1, 901), 10, 10).told();
        due("28 two", t.loadAll(1000), 2);
        // 901 for the first; then 1100 all but makes up for it, while 900 would do as well from the start.
        dueWhere("28 two", t, 8, 1);
    }

    private static void loadAllToTheLeastAndTheGreatestArm() {
        TrimSheet t = items(at(0, 1, 4999, 5000), 5000).told();
        due("28 to 0", t.loadAll(0), 1);
        due("28 to 0", t.where(0), 0);
        t.unload(0);
        due("28 to 5000", t.loadAll(5000), 1);
        due("28 to 5000", t.where(0), 3);
    }

    /** "one that FITS nowhere stays", and those behind it are loaded all the same. */
    private static void loadAllOneStays() {
        Story told = new Story().then("hold", 20000, 20000).then("slot", 0, 900, 10).then("slot", 0, 1000, 9);
        TrimSheet t = items(told, 11, 9, 10, 1).told();
        due("28 one is too heavy, one too many", t.loadAll(1000), 2);
        dueWhere("28 one is too heavy, one too many", t, TrimSheet.NONE, 1, 0, TrimSheet.NONE);
        Story floor = new Story().then("hold", 20000, 10).then("slot", 0, 900, 10).then("slot", 0, 1000, 10);
        TrimSheet near = items(floor, 10, 1).told();
        due("28 the floor bears just the first", near.loadAll(1000), 1);
        dueWhere("28 the floor bears just the first", near, 1, TrimSheet.NONE);
    }

    // ---- 29: "as long as there is a GOOD one: the first .. is done, 50 times at most"

    private static void betterNothing() {
        due("29 no hold", new TrimSheet().better(0), 0);
        changesNothing(items(at(1, 2), 5, 6), "29 none is loaded", 0, "better", 0);
        changesNothing(items(at(5), 5).then("load", 0, 0, 0), "29 no free slot", 0, "better", 0);
        changesNothing(items(at(1000, 1001), 5).then("load", 0, 0, 0), "29 just the arm", 0, "better", 1000);
    }

    /** "the DRY ARM is nearer to the told one than before": as near is not enough. */
    private static void betterNotNearer() {
        Story near = items(at(900, 1100), 10).then("load", 0, 0, 0);
        changesNothing(near, "29 as near on the other side", 0, "better", 1000);
        due("29 one nearer", items(at(900, 1099), 10).then("load", 0, 0, 0).told().better(1000), 1);
        changesNothing(items(at(900, 1101), 10).then("load", 0, 0, 0), "29 one farther", 0, "better", 1000);
        Story alike = items(at(900, 1000), 10, 10).then("load", 0, 0, 0).then("load", 1, 0, 1);
        changesNothing(alike, "29 alike weights swapped", 0, "better", 1000);
        Story same = items(hold(at(900), 1, 900), 10, 11).then("load", 0, 0, 0).then("load", 1, 1, 0);
        changesNothing(same, "29 alike arms swapped", 0, "better", 0);
        changesNothing(items(hold(at(900), 1, 900), 10).then("load", 0, 0, 0), "29 to an alike arm", 0, "better", 0);
    }

    /** Two alike items that go step by step from slot to slot, one behind the other. */
    private static Story steps(int slots, int second) {
        Story told = new Story().then("empty", 1000, 0);
        for (int h = 0; h < 4; h++) {
            told.then("hold", 20000, 20000);
        }
        for (int place = 0; place < slots; place++) {
            told.then("slot", place / 8, place, 20000);
        }
        return items(told, 10, 10).then("load", 0, 0, 0).then("load", 1, 0, second);
    }

    private static void betterFiftyTimes() {
        due("29 one short of fifty", steps(27, 1).told().better(5000), 49);
        TrimSheet fifty = steps(28, 2).told();
        due("29 fifty", fifty.better(5000), 50);
        dueWhere("29 fifty", fifty, 27, 26);
        due("29 none is left", fifty.better(5000), 0);
        TrimSheet more = steps(28, 1).told();
        due("29 fifty of fifty-one", more.better(5000), 50);
        dueWhere("29 fifty of fifty-one", more, 27, 25);
        due("29 the last one", more.better(5000), 1);
        dueWhere("29 the last one", more, 27, 26);
        due("29 none is left", more.better(5000), 0);
    }

    /** "SWAPS by the lesser, then the greater number; then MOVES by ITEM, HOLD, SLOT" */
    private static void betterFirstOfSeveral() {
        Story three = items(at(900, 1000, 1100), 10, 20, 30).then("load", 0, 0, 2).then("load", 1, 0, 1);
        three.then("load", 2, 0, 0);
        // From a lean of -2000: 0 with 1 makes it -1000, as would 1 with 2; then all are -2000 or 1000.
        TrimSheet t = three.told();
        due("29 swaps by the lesser number", t.better(1000), 1);
        dueWhere("29 swaps by the lesser number", t, 1, 2, 0);
        Story front = items(at(900, 1000, 1100), 10, 20, 30).then("load", 0, 0, 0).then("load", 1, 0, 1);
        TrimSheet f = front.then("load", 2, 0, 2).told();
        // All is to go to the front: 0 with 1, 0 with 2, 1 with 2; 0 with 2 alone would do.
        due("29 swaps by the greater number then", f.better(0), 3);
        dueWhere("29 swaps by the greater number then", f, 2, 1, 0);
        Story moves = hold(at(900, 950), 1, 950, 990);
        TrimSheet m = items(moves, 10, 10).then("load", 0, 0, 0).then("load", 1, 1, 0).told();
        // 0 to 950, then to 990; 1 then has only 900 and 950 left.
        due("29 moves", m.better(1000), 2);
        dueWhere("29 moves", m, 9, 8);
    }

    private static void betterOnlyWhereItFits() {
        Story told = new Story().then("empty", 1000, 1000).then("hold", 20, 20).then("slot", 0, 900, 10);
        told.then("slot", 0, 1000, 9).then("hold", 19, 20).then("slot", 1, 1000, 20).then("slot", 1, 2000, 20);
        told.then("item", 10, 0, 1).then("item", 10, 1, 1).then("load", 0, 0, 0).then("load", 1, 1, 1);
        told.then("apart", 0, 1, 1);
        // 0 to 1000 is too much for that slot, and for the other hold; 1 to 1000 is good, and then nothing.
        TrimSheet t = told.told();
        due("29 the slot's and the hold's most", t.better(1000), 1);
        dueWhere("29 the slot's and the hold's most", t, 0, 8);
    }

    /**
     * Item 1 of 15 comes from behind next to item 2 of 15, item 0 of 10 next to item 3 of 1: the only
     * good swap, if both fit where they come.
     */
    private static int swapped(int slotMost, int holdMost, int floor, int oneAndTwo, int zeroAndThree) {
        Story told = new Story().then("empty", 1000, 1000).then("hold", holdMost, floor).then("hold", 16, 16);
        told.then("slot", 0, 900, 15).then("slot", 0, 901, slotMost);
        told.then("slot", 1, 1100, 15).then("slot", 1, 1101, 15);
        told.then("item", 10, 0, 1).then("item", 15, 1, 1).then("item", 15, 2, 1).then("item", 1, 3, 1);
        told.then("apart", 1, 2, oneAndTwo).then("apart", 3, 0, zeroAndThree);
        told.then("load", 0, 0, 1).then("load", 1, 1, 0).then("load", 2, 0, 0).then("load", 3, 1, 1);
        told.mustBeGood(CHECKS);
        TrimSheet t = told.told();
        int done = t.better(0);
        dueWhere("29 swapped or not", t, done == 1 ? 8 : 1, done == 1 ? 1 : 8, 0, 9);
        return done;
    }

    private static void betterSwapsThatJustFit() {
        due("29 all just fits", swapped(15, 30, 30, 1, 1), 1);
        due("29 one above the slot's most", swapped(14, 30, 30, 1, 1), 0);
        due("29 one above the hold's most", swapped(15, 29, 30, 1, 1), 0);
        due("29 one above the floor", swapped(15, 30, 29, 1, 1), 0);
        due("29 too near, the greater one", swapped(15, 30, 30, 2, 1), 0);
        due("29 too near, the lesser one", swapped(15, 30, 30, 1, 2), 0);
    }

    /** "those that move taken out": what moves is not in its own way. */
    private static void betterTakesOutWhatMoves() {
        Story told = new Story().then("empty", 1000, 1000).then("hold", 10, 10).then("apart", 0, 0, 8);
        told.then("slot", 0, 900, 10).then("slot", 0, 1000, 10).then("item", 10, 0, 1).then("load", 0, 0, 0);
        due("29 a move in a hold that is full with it", told.told().better(1000), 1);
        Story two = new Story().then("empty", 1000, 1000).then("hold", 30, 30).then("apart", 0, 0, 2);
        two.then("slot", 0, 900, 20).then("slot", 0, 950, 20).then("slot", 0, 1000, 20);
        two.then("item", 10, 0, 1).then("item", 20, 0, 1).then("load", 0, 0, 2).then("load", 1, 0, 0);
        due("29 a swap in a hold that is full with both", two.told().better(1000), 1);
    }

    // ---- 30: "for 4 ITEMS that are not LOADED at most and 10 free SLOTS at most"

    private static Story slots(int many) {
        Story told = new Story().then("empty", 1000, 1000);
        for (int place = 0; place < many; place++) {
            if (place % 8 == 0) {
                told.then("hold", 20000, 20000);
            }
            told.then("slot", place / 8, 900 + 10 * place, 20000);
        }
        return told;
    }

    private static void bestItemsAtMost() {
        Story told = slots(10);
        changesNothing(told, "30 no item", TrimSheet.STATE, "best", 1000);
        for (int n = 1; n <= 4; n++) {
            items(told, 10 * n);
            TrimSheet t = told.told();
            due("30 items " + n, t.best(1000), 0);
            due("30 items " + n + " loaded", t.count(3), n);
            due("30 no item is left", t.best(1000), TrimSheet.STATE);
        }
        items(told, 50);
        changesNothing(told, "30 five items", TrimSheet.STATE, "best", 1000);
        told.then("load", 4, 0, 0);
        due("30 five items, four that are not loaded", told.told().best(1000), 0);
        told.then("unload", 4).then("load", 0, 1, 1);
        due("30 another four of five", told.told().best(1000), 0);
        items(told, 60);
        changesNothing(told, "30 five of six", TrimSheet.STATE, "best", 1000);
        changesNothing(told, "30 bad is told before state", TrimSheet.BAD, "best", 5001);
        Story loaded = items(slots(10), 5, 6).then("load", 0, 0, 0).then("load", 1, 0, 1);
        changesNothing(loaded, "30 all are loaded", TrimSheet.STATE, "best", 0);
    }

    private static void bestSlotsAtMost() {
        for (int many = 1; many <= 32; many++) {
            Story told = items(slots(many), 10);
            if (many <= 10) {
                due("30 free slots " + many, told.told().best(1000), 0);
            } else {
                changesNothing(told, "30 free slots " + many, TrimSheet.STATE, "best", 1000);
            }
        }
        Story told = slots(32);
        for (int i = 0; i < 21; i++) {
            told.then("item", 10, 0, 1).then("load", i, i / 8, i % 8);
        }
        items(told, 11);
        changesNothing(told, "30 eleven free slots of 32", TrimSheet.STATE, "best", 1000);
        told.then("load", 21, 2, 5);
        items(told, 12, 13, 14, 15);
        due("30 ten free slots of 32, four items", told.told().best(1000), 0);
    }

    /** "of these the first (by the SLOT of the first ITEM, then of the next one; SLOTS by HOLD, then number)" */
    private static void bestAlikeWays() {
        TrimSheet both = items(at(900, 1100), 10).told();
        due("30 as near on both sides", both.best(1000), 0);
        due("30 the first of both", both.where(0), 0);
        TrimSheet holds = items(hold(at(500, 1000), 1, 1000), 10, 10).told();
        due("30 in each of two holds", holds.best(1000), 0);
        dueWhere("30 the first way", holds, 1, 8);
        TrimSheet four = items(hold(at(1000), 1, 1000, 1001, 1002), 10, 10, 10, 10).told();
        due("30 four alike in four", four.best(0), 0);
        dueWhere("30 the first way", four, 0, 8, 9, 10);
        TrimSheet nearer = items(at(899, 1100), 10).told();
        due("30 nearer is before first", nearer.best(1000), 0);
        due("30 nearer is before first", nearer.where(0), 1);
        Story stops = at(900, 1000).then("item", 10, 0, 2).then("item", 10, 0, 1);
        TrimSheet pushed = stops.told();
        due("30 less pushed is before nearer and first", pushed.best(1000), 0);
        dueWhere("30 less pushed", pushed, 1, 0);
    }

    private static void bestCountsWhatLiesThere() {
        Story there = at(900, 1000, 1100).then("item", 10, 0, 1).then("item", 10, 0, 2).then("load", 0, 0, 2);
        due("30 pushed by one that lies there", there.told().best(1000), 1);
        Story before = hold(at(900, 1000, 1100), 1, 1000).then("item", 10, 0, 2).then("item", 10, 0, 1);
        before.then("load", 0, 0, 0).then("load", 1, 0, 1).then("item", 10, 0, 1);
        TrimSheet t = before.told();
        due("30 one was pushed before", t.best(1100), 1);
        due("30 in the same hold", t.where(2), 2);
        TrimSheet other = before.told();
        due("30 one was pushed before", other.best(0), 1);
        due("30 in the other hold", other.where(2), 8);
        TrimSheet more = before.then("item", 10, 0, 4).told();
        due("30 none more is pushed", more.best(1000), 1);
        due("30 none more is pushed", more.pushed(0), 1);
    }

    private static void bestAgainAndAgain() {
        TrimSheet t = items(slots(10), 10, 20, 30, 40).told();
        for (int round = 0; round < 30; round++) {
            due("30 round " + round, t.best(round % 2 == 0 ? 0 : 5000), 0);
            dueWhere("30 round " + round, t, round % 2 == 0 ? new int[] {3, 2, 1, 0} : new int[] {6, 7, 8, 9});
            due("30 all out", t.arrive(1), 4);
        }
    }

    private static void bestNoWayAtAll() {
        changesNothing(items(new Story(), 5), "30 no hold", -5, "best", 0);
        changesNothing(items(at(), 5), "30 no slot", -5, "best", 0);
        changesNothing(items(at(1), 5, 6).then("load", 0, 0, 0), "30 no free slot", -5, "best", 0);
        changesNothing(items(at(1, 2, 3), 5, 6, 7, 8), "30 four items, three slots", -5, "best", 0);
        due("30 three items, three slots", items(at(1, 2, 3), 5, 6, 7).told().best(0), 0);
        Story heavy = new Story().then("hold", 10, 20).then("slot", 0, 1, 10).then("slot", 0, 2, 10);
        due("30 just the hold's most", items(heavy, 5, 5).told().best(0), 0);
        changesNothing(items(heavy, 1), "30 three for two slots", -5, "best", 0);
        Story most = new Story().then("hold", 10, 20).then("slot", 0, 1, 10).then("slot", 0, 2, 10);
        changesNothing(items(most, 5, 6), "30 one above the hold's most", -5, "best", 0);
    }

    // ---- 31: "n more, each in turn into the ROW with a free seat ..": n 0 .. 80

    private static void lateNoneAndAll() {
        Story told = new Story();
        due("31 no row, none", told.told().late(0, 0), 0);
        changesNothing(told, "31 no row", 0, "late", 80, 0);
        for (int r = 0; r < 10; r++) {
            told.then("row", 100 * r, 8);
        }
        changesNothing(told, "31 none comes", 0, "late", 0, 5000);
        for (int n : new int[] {1, 2, 79, 80}) {
            TrimSheet t = told.told();
            due("31 " + n + " come", t.late(n, 5000), n);
            due("31 " + n + " sit", t.count(5), n);
            due("31 weight", t.weight(0), 1000 + 80 * n);
        }
        for (int bad : new int[] {LEAST, -1, 81, GREATEST}) {
            changesNothing(told, "31 n", TrimSheet.BAD, "late", bad, 0);
        }
        told.then("late", 79, 0);
        due("31 two come, one seat is free", told.told().late(2, 0), 1);
        told.then("late", 1, 0);
        changesNothing(told, "31 no seat is free", 0, "late", 1, 0);
        changesNothing(told, "31 no seat is free", 0, "late", 80, 0);
    }

    /** "of several the least" */
    private static void lateAlikeRows() {
        Story told = new Story().then("empty", 1000, 1000).then("row", 900, 1).then("row", 1100, 2);
        told.then("row", 900, 1).then("row", 1000, 1);
        int[] order = {3, 0, 1, 1, 2};
        for (int n = 1; n <= 5; n++) {
            TrimSheet t = told.told();
            due("31 " + n + " come", t.late(n, 1000), n);
            int[] taken = new int[4];
            for (int who = 0; who < n; who++) {
                taken[order[who]]++;
            }
            for (int r = 0; r < 4; r++) {
                due("31 row " + r + " of " + n, t.seat(r, 0), taken[r]);
            }
        }
        due("31 one too many", told.told().late(6, 1000), 5);
    }

    private static void lateOneSeatLeft() {
        for (int left = 0; left < 10; left++) {
            Story told = new Story();
            for (int r = 0; r < 10; r++) {
                told.then("row", 500 * r, 8).then("seat", r, r == left ? 7 : 8);
            }
            TrimSheet t = told.told();
            due("31 only row " + left + " has a seat", t.late(80, 0), 1);
            due("31 it is taken", t.seat(left, 8), 8);
            due("31 none is free", t.late(80, 0), 0);
        }
    }

    // ---- 28 to 31: ARMS 0 .. 5000

    private static void armsOfTheRules() {
        Story told = items(at(900, 1000), 10, 20).then("load", 0, 0, 0).then("row", 1, 1);
        for (int arm : BAD_ARMS) {
            changesNothing(told, "28", TrimSheet.BAD, "loadAll", arm);
            changesNothing(told, "29", TrimSheet.BAD, "better", arm);
            changesNothing(told, "30", TrimSheet.BAD, "best", arm);
            changesNothing(told, "31", TrimSheet.BAD, "late", 0, arm);
            changesNothing(told, "31", TrimSheet.BAD, "late", 1, arm);
        }
        for (int arm : new int[] {0, 1, 4999, 5000}) {
            due("28 to " + arm, told.told().loadAll(arm), 1);
            due("29 to " + arm, told.told().better(arm), arm < 1000 ? 0 : 1);
            due("30 to " + arm, told.told().best(arm), 0);
            due("31 to " + arm, told.told().late(1, arm), 1);
        }
    }

    // ---- 32: "0 HOLDS, 1 SLOTS, 2 ITEMS, 3 LOADED ones, 4 ROWS, 5 PASSENGERS, 6 TANKS, 7 PERSON"

    private static void countEmptyAndFull() {
        Story told = slots(32);
        for (int i = 0; i < 40; i++) {
            told.then("item", 1, 0, 1);
        }
        told.then("loadAll", 0);
        for (int r = 0; r < 10; r++) {
            told.then("row", 0, 8);
        }
        told.then("late", 80, 0).then("person", 150);
        for (int n = 0; n < 4; n++) {
            told.then("tank", 0, 0);
        }
        int[] empty = {0, 0, 0, 0, 0, 0, 0, 80};
        int[] full = {4, 32, 40, 32, 10, 80, 4, 150};
        for (int what = 0; what < 8; what++) {
            changesNothing(new Story(), "32 empty", empty[what], "count", what);
            changesNothing(told, "32 full", full[what], "count", what);
        }
        for (int none : new int[] {LEAST, -1, 8, GREATEST}) {
            changesNothing(new Story(), "32 empty", TrimSheet.NONE, "count", none);
            changesNothing(told, "32 full", TrimSheet.NONE, "count", none);
        }
    }
}
