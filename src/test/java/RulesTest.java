/** Promises 28 to 32: by rules. */
public final class RulesTest {
    private static final Checks CHECKS = new Checks();

    private static void due(String call, long got, long want) {
        CHECKS.due(call, got, want);
    }

    public static void main(String[] args) {
        badArms();
        loadAllHeaviestFirst();
        loadAllOfSeveral();
        loadAllLeavesWhatDoesNotFit();
        betterSwapsBeforeMoves();
        betterMoves();
        betterKeepsWhatFits();
        betterEnds();
        bestLeastPushed();
        bestNearestAndFirst();
        bestNoWay();
        bestRefusals();
        late();
        count();
        CHECKS.end("RulesTest");
    }

    private static void addHold(TrimSheet t, int... arms) {
        int hold = t.hold(20000, 20000);
        for (int arm : arms) {
            t.slot(hold, arm, 20000);
        }
    }

    /** Empty weight 1000 at arm 1000, and holds whose slots take anything. */
    private static TrimSheet sheet(int[]... holds) {
        TrimSheet t = new TrimSheet();
        t.empty(1000, 1000);
        for (int[] arms : holds) {
            addHold(t, arms);
        }
        return t;
    }

    private static void dueWhere(String call, TrimSheet t, int... places) {
        for (int i = 0; i < places.length; i++) {
            due(call + " where(" + i + ")", t.where(i), places[i]);
        }
    }

    private static void badArms() {
        TrimSheet t = sheet(new int[] {900, 1000});
        t.row(1000, 8);
        t.item(10, 0, 1);
        for (int arm : new int[] {-1, 5001, Integer.MIN_VALUE, Integer.MAX_VALUE}) {
            due("28 loadAll(" + arm + ")", t.loadAll(arm), TrimSheet.BAD);
            due("29 better(" + arm + ")", t.better(arm), TrimSheet.BAD);
            due("30 best(" + arm + ")", t.best(arm), TrimSheet.BAD);
            due("31 late(1, " + arm + ")", t.late(1, arm), TrimSheet.BAD);
        }
        due("28 to 31 change nothing", t.count(3) + t.count(5), 0);
    }

    private static void loadAllHeaviestFirst() {
        TrimSheet t = sheet(new int[] {500, 1000, 1500});
        t.item(10, 0, 1);
        t.item(30, 0, 1);
        t.item(10, 0, 1);
        due("28 loadAll(1000)", t.loadAll(1000), 3);
        // The heaviest takes 1000; then, 500 and 1500 being as near, the first one takes the lesser slot.
        dueWhere("28", t, 0, 1, 2);
        due("28 again", t.loadAll(1000), 0);
        t.unload(1);
        due("28 only the ones that are not loaded", t.loadAll(0), 1);
        TrimSheet edge = sheet(new int[] {500, 1000, 1500});
        edge.item(10, 0, 1);
        due("28 loadAll(0)", edge.loadAll(0), 1);
        due("28 loadAll(0) where", edge.where(0), 0);
        edge.unload(0);
        due("28 loadAll(5000)", edge.loadAll(5000), 1);
        due("28 loadAll(5000) where", edge.where(0), 2);
    }

    private static void loadAllOfSeveral() {
        TrimSheet t = sheet(new int[] {800, 1200}, new int[] {900, 1100}, new int[] {900, 1100});
        for (int i = 0; i < 4; i++) {
            t.item(100, 0, 1);
        }
        due("28 loadAll(1000)", t.loadAll(1000), 4);
        dueWhere("28 least hold, then slot", t, 8, 9, 16, 17);
    }

    private static void loadAllLeavesWhatDoesNotFit() {
        TrimSheet t = new TrimSheet();
        t.hold(100, 100);
        t.slot(0, 10, 60);
        t.slot(0, 20, 60);
        t.item(40, 0, 1);
        t.item(61, 0, 1);
        t.item(60, 0, 1);
        t.item(1, 0, 1);
        due("28 loadAll", t.loadAll(0), 2);
        dueWhere("28", t, 1, TrimSheet.NONE, 0, TrimSheet.NONE);
    }

    private static void betterSwapsBeforeMoves() {
        TrimSheet t = sheet(new int[] {900, 1000, 1050, 1100});
        t.item(10, 0, 1);
        t.item(30, 0, 1);
        t.item(20, 0, 1);
        t.load(0, 0, 1);
        t.load(1, 0, 3);
        t.load(2, 0, 2);
        // It leans by 4000, by 2000 when 0 and 1 are swapped; no swap is good then, but 0 moved to 900 is.
        due("29 a swap, then a move", t.better(1000), 2);
        dueWhere("29", t, 0, 1, 2);
        due("29 no good one is left", t.better(1000), 0);
        TrimSheet one = sheet(new int[] {900, 1000, 1100});
        one.item(10, 0, 1);
        one.item(20, 0, 1);
        one.load(0, 0, 1);
        one.load(1, 0, 2);
        // A swap leaves a lean of 1000; then item 0's move to 900 one of -1000: not nearer.
        due("29 one swap, though moving 1 to 900 is as near as it was", one.better(1000), 1);
        dueWhere("29 swapped", one, 2, 1);
    }

    private static void betterMoves() {
        TrimSheet t = sheet(new int[] {940, 1000}, new int[] {990, 1010});
        t.item(10, 0, 1);
        t.load(0, 0, 0);
        // The first good one, not the best: hold 0 slot 1 is just right.
        due("29 one move", t.better(1000), 1);
        due("29 moved", t.where(0), 1);
        due("29 nothing is better", t.better(1000), 0);
        due("29 another arm", t.better(5000), 1);
        due("29 by hold, then slot", t.where(0), 9);
        TrimSheet steps = sheet(new int[] {900, 910, 920, 1000});
        steps.item(10, 0, 1);
        steps.load(0, 0, 0);
        due("29 the first good one each time", steps.better(1000), 3);
        due("29 no item", sheet(new int[] {1}).better(1000), 0);
        TrimSheet waiting = sheet(new int[] {900, 1000});
        waiting.item(10, 0, 1);
        due("29 one that is not loaded is not moved", waiting.better(1000), 0);
        due("29 one that is not loaded is not loaded", waiting.where(0), TrimSheet.NONE);
    }

    private static void betterKeepsWhatFits() {
        TrimSheet t = new TrimSheet();
        t.empty(1000, 1000);
        t.hold(100, 60);
        t.slot(0, 1000, 40);
        t.slot(0, 1100, 60);
        t.hold(100, 100);
        t.slot(1, 1200, 100);
        t.item(50, 0, 1);
        t.item(20, 1, 1);
        t.load(0, 0, 1);
        t.load(1, 1, 0);
        // The swap leans more; 1 moved to 1000 breaks the floor, 0 moved to 1000 the slot's most.
        due("29 nothing fits", t.better(1000), 0);
        dueWhere("29 all stay", t, 1, 8);
        TrimSheet mates = sheet(new int[] {900, 1000, 1100});
        mates.item(30, 0, 1);
        mates.item(10, 0, 1);
        mates.apart(0, 0, 2);
        mates.load(0, 0, 2);
        mates.load(1, 0, 0);
        // A swap leaves them two apart, and leans -2000 where it was 2000: not nearer.
        // The move of 0 to 1000 would be nearer, but too near to 1.
        due("29 apart", mates.better(1000), 0);
        mates.apart(0, 0, 1);
        due("29 not apart", mates.better(1000), 1);
        dueWhere("29 moved", mates, 1, 0);
    }

    /** 32 items in all 32 slots, the heaviest in front, are to be turned round by swaps. */
    private static void betterEnds() {
        TrimSheet t = new TrimSheet();
        t.empty(100000, 0);
        for (int h = 0; h < 4; h++) {
            int[] arms = new int[8];
            for (int s = 0; s < 8; s++) {
                arms[s] = 8 * h + s;
            }
            addHold(t, arms);
        }
        for (int i = 0; i < 32; i++) {
            t.item(1000 - i, 0, 1);
            t.load(i, i / 8, i % 8);
        }
        due("29 at most 50", t.better(5000), 50);
        int rest = 0;
        int rounds = 0;
        int done = 50;
        while (done == 50 && rounds < 100) {
            done = t.better(5000);
            rest += done;
            rounds++;
        }
        due("29 it goes on", rest, 31 * 32 / 2 - 50);
    }

    private static void bestLeastPushed() {
        TrimSheet t = sheet(new int[] {1000, 1100});
        t.item(10, 0, 2);
        t.item(20, 0, 1);
        due("30 best(1000)", t.best(1000), 0);
        // The nearer way, the heavier one at 1000, has nothing pushed either.
        dueWhere("30", t, 1, 0);
        TrimSheet far = sheet(new int[] {1000, 1100});
        far.item(10, 0, 1);
        far.item(20, 0, 2);
        due("30 best(1000)", far.best(1000), 0);
        dueWhere("30 least pushed before nearest", far, 0, 1);
        TrimSheet forced = new TrimSheet();
        forced.hold(100, 100);
        forced.slot(0, 10, 10);
        forced.slot(0, 20, 20);
        forced.item(20, 0, 1);
        forced.item(10, 0, 2);
        due("30 one is pushed", forced.best(0), 1);
        dueWhere("30 forced", forced, 1, 0);
        due("30 one is pushed", forced.pushed(0), 1);
    }

    private static void bestNearestAndFirst() {
        TrimSheet t = sheet(new int[] {900, 950}, new int[] {1050, 1100});
        t.item(10, 0, 1);
        t.item(10, 0, 1);
        due("30 best(1000)", t.best(1000), 0);
        // 900 with 1100 and 950 with 1050 lean alike: the first one is done.
        dueWhere("30 first", t, 0, 9);
        t.unload(0);
        due("30 with one loaded", t.best(0), 0);
        due("30 the nearest", t.where(0), 0);
        t.unload(0);
        due("30 best(5000)", t.best(5000), 0);
        due("30 the nearest", t.where(0), 8);
    }

    private static void bestNoWay() {
        TrimSheet t = sheet(new int[] {900, 950});
        t.item(10, 0, 1);
        t.item(10, 0, 1);
        t.apart(0, 0, 2);
        due("30 too near", t.best(1000), -5);
        due("30 changes nothing", t.count(3), 0);
        t.apart(0, 0, 0);
        t.item(10, 0, 1);
        due("30 more items than slots", t.best(1000), -5);
        due("30 changes nothing", t.count(3), 0);
        due("30 no slot", withItems(sheet(), 1).best(1000), -5);
    }

    private static TrimSheet withItems(TrimSheet t, int items) {
        for (int i = 0; i < items; i++) {
            t.item(10 + i, 0, 1 + i % 4);
        }
        return t;
    }

    private static void bestRefusals() {
        int[] eight = {1, 2, 3, 4, 5, 6, 7, 8};
        int[] two = {1, 2};
        int[] three = {1, 2, 3};
        due("30 no item", sheet(eight).best(0), TrimSheet.STATE);
        due("30 five items", withItems(sheet(eight), 5).best(0), TrimSheet.STATE);
        due("30 four items, ten slots", withItems(sheet(eight, two), 4).best(0), 0);
        due("30 eleven slots", withItems(sheet(eight, three), 1).best(0), TrimSheet.STATE);
        due("30 bad is told before state", withItems(sheet(eight), 5).best(-1), TrimSheet.BAD);
        TrimSheet t = withItems(sheet(eight, three), 5);
        t.load(0, 0, 0);
        due("30 four items, ten free slots", t.best(0), 0);
        due("30 all are loaded", t.count(3), 5);
        due("30 no item that is not loaded", t.best(0), TrimSheet.STATE);
    }

    private static void late() {
        TrimSheet t = new TrimSheet();
        t.empty(1000, 1000);
        due("31 n -1", t.late(-1, 0), TrimSheet.BAD);
        due("31 n 81", t.late(81, 0), TrimSheet.BAD);
        due("31 no row", t.late(80, 0), 0);
        t.row(900, 2);
        t.row(1100, 3);
        t.row(900, 8);
        due("31 none come", t.late(0, 1000), 0);
        due("31 one", t.late(1, 1000), 1);
        due("31 the least of several", t.seat(0, 1), 1);
        due("31 two more", t.late(2, 1000), 2);
        due("31 the other side", t.seat(1, 1), 1);
        due("31 the same row again", t.seat(0, 2), 2);
        due("31 ten of twenty", t.late(20, 1000), 10);
        due("31 all seats are taken", t.count(5), 13);
        due("31 none is free", t.late(1, 5000), 0);
        TrimSheet far = new TrimSheet();
        for (int r = 0; r < 10; r++) {
            far.row(100 * r, 8);
        }
        due("31 eighty", far.late(80, 5000), 80);
        due("31 from the last row on", far.count(5), 80);
        far.seat(3, 0);
        far.seat(7, 7);
        due("31 one to arm 5000", far.late(1, 5000), 1);
        due("31 the nearest row that is free", far.seat(7, 8), 8);
        due("31 one to arm 0", far.late(1, 0), 1);
        due("31 the only row that is free", far.seat(3, 0), 1);
    }

    private static void count() {
        TrimSheet t = sheet(new int[] {900, 1000}, new int[] {5, 6, 7});
        t.item(10, 0, 1);
        t.item(10, 0, 1);
        t.item(10, 0, 1);
        t.load(1, 1, 2);
        t.row(10, 4);
        t.row(20, 5);
        t.seat(0, 4);
        t.seat(1, 3);
        t.tank(5, 5);
        t.person(90);
        int[] counts = {2, 5, 3, 1, 2, 7, 1, 90};
        for (int what = 0; what < counts.length; what++) {
            due("32 count(" + what + ")", t.count(what), counts[what]);
        }
        due("32 what 8", t.count(8), TrimSheet.NONE);
        due("32 what -1", t.count(-1), TrimSheet.NONE);
    }
}
