import java.util.Arrays;
import java.util.HashSet;
import java.util.LinkedHashMap;
import java.util.Map;
import java.util.Set;

/**
 * "REFUSALS, of several the first one told. They change nothing." Every call of the promises 2 to 32
 * with numbers at its bounds, one beyond them, and the least and the greatest int, in every mixture;
 * in a new aircraft, in a common one and in one that is full.
 */
public final class RefusalsTest {
    private static final Checks CHECKS = new Checks();
    private static final int LEAST = Integer.MIN_VALUE, GREATEST = Integer.MAX_VALUE;
    private static final long NONE = TrimSheet.NONE, BAD = TrimSheet.BAD, STATE = TrimSheet.STATE,
        FULL = TrimSheet.FULL, NO = TrimSheet.NO;

    private static final int[] ARMS = {LEAST, -1, 0, 5000, 5001, GREATEST};
    private static final int[] MOSTS = {LEAST, -1, 0, 20000, 20001, GREATEST};
    private static final int[] HOLDS = {LEAST, -1, 0, 1, 2, 3, 4, GREATEST};
    private static final int[] SLOTS = {LEAST, -1, 0, 1, 2, 3, 7, 8, GREATEST};
    /** The last slot of each hold here is at 2000. */
    private static final int[] SLOT_ARMS = {LEAST, -1, 0, 1999, 2000, 2001, 5000, 5001, GREATEST};
    private static final int[] KINDS = {LEAST, -1, 0, 7, 8, GREATEST};
    private static final int[] STOPS = {LEAST, -1, 0, 1, 4, 5, GREATEST};
    private static final int[] DISTANCES = {LEAST, -1, 0, 1, 8, 9, GREATEST};
    private static final int[] ITEMS = {LEAST, -1, 0, 1, 2, 5, 6, 31, 32, 39, 40, GREATEST};
    private static final int[] ITEM_WEIGHTS = {LEAST, -1, 0, 1, 5000, 5001, GREATEST};
    private static final int[] ROWS = {LEAST, -1, 0, 1, 2, 9, 10, GREATEST};
    private static final int[] SEATS = {LEAST, -1, 0, 1, 3, 4, 8, 9, GREATEST};
    private static final int[] TANKS = {LEAST, -1, 0, 1, 2, 3, 4, GREATEST};
    /** The tanks here take 0, 60 or 300. */
    private static final int[] AMOUNTS = {LEAST, -1, 0, 1, 60, 61, 300, 301, GREATEST};
    private static final int[] PHASES = {LEAST, -1, 0, 1, 2, GREATEST};
    /** The last point of each phase here is at 3000. */
    private static final int[] POINT_WEIGHTS = {LEAST, -1, 0, 1, 2999, 3000, 3001, 1000000, 1000001, GREATEST};
    /** There are 200 measures of fuel here, or none. */
    private static final int[] BURNT = {LEAST, -1, 0, 1, 200, 201, GREATEST};
    private static final int[] WHAT = {LEAST, -1, 0, 1, 2, 3, 4, 5, 6, 7, 8, GREATEST};

    private static final Set<String> ASKING = Set.of("fits", "where", "in", "about", "weight", "moment", "burnt",
        "within", "safe", "wrong", "pushed", "count");

    private final String state;
    private final Story story = new Story();
    private final PlainModel model = new PlainModel();

    private RefusalsTest(String state) {
        this.state = state;
    }

    public static void main(String[] args) {
        new RefusalsTest("new").callAll();
        common().callAll();
        full().callAll();
        CHECKS.end("RefusalsTest");
    }

    private static Map<String, int[][]> numbers() {
        Map<String, int[][]> all = new LinkedHashMap<>();
        all.put("empty", new int[][] {{LEAST, -1, 0, 999, 1000, 100000, 100001, GREATEST}, ARMS});
        all.put("hold", new int[][] {MOSTS, MOSTS});
        all.put("slot", new int[][] {HOLDS, SLOT_ARMS, MOSTS});
        all.put("apart", new int[][] {KINDS, KINDS, DISTANCES});
        all.put("item", new int[][] {ITEM_WEIGHTS, KINDS, STOPS});
        all.put("row", new int[][] {ARMS, {LEAST, -1, 0, 1, 8, 9, GREATEST}});
        all.put("tank", new int[][] {ARMS, MOSTS});
        all.put("person", new int[][] {{LEAST, -1, 0, 49, 50, 150, 151, GREATEST}});
        all.put("seat", new int[][] {ROWS, SEATS});
        all.put("fuel", new int[][] {TANKS, AMOUNTS});
        all.put("point", new int[][] {PHASES, POINT_WEIGHTS, ARMS, ARMS});
        all.put("wipe", new int[][] {PHASES});
        all.put("fits", new int[][] {ITEMS, HOLDS, SLOTS});
        all.put("load", new int[][] {ITEMS, HOLDS, SLOTS});
        all.put("unload", new int[][] {ITEMS});
        all.put("where", new int[][] {ITEMS});
        all.put("in", new int[][] {HOLDS, SLOTS});
        all.put("about", new int[][] {HOLDS, WHAT});
        all.put("weight", new int[][] {WHAT});
        all.put("moment", new int[][] {WHAT});
        all.put("burnt", new int[][] {BURNT, WHAT});
        all.put("within", new int[][] {PHASES});
        all.put("safe", new int[][] {BURNT});
        all.put("wrong", new int[][] {BURNT});
        all.put("pushed", new int[][] {STOPS});
        all.put("arrive", new int[][] {STOPS});
        all.put("loadAll", new int[][] {ARMS});
        all.put("better", new int[][] {ARMS});
        all.put("best", new int[][] {ARMS});
        all.put("late", new int[][] {{LEAST, -1, 0, 1, 80, 81, GREATEST}, ARMS});
        all.put("count", new int[][] {WHAT});
        return all;
    }

    // ---- the aircraft

    private static RefusalsTest common() {
        RefusalsTest a = new RefusalsTest("common");
        a.hold(500, 300, 3);
        a.hold(900, 900, 2);
        a.hold(900, 900, 0);
        a.story.then("apart", 0, 7, 2).then("apart", 1, 1, 3);
        a.model.apart[0][7] = 2;
        a.model.apart[7][0] = 2;
        a.model.apart[1][1] = 3;
        int[] weights = {150, 180, 100, 5000, 1, 200};
        for (int i = 0; i < weights.length; i++) {
            a.item(weights[i], i == 2 ? 7 : i % 2, 1 + i % 4);
        }
        a.put(0, 0, 1);
        a.put(1, 1, 0);
        a.row(1800, 3, 2);
        a.row(2200, 8, 0);
        a.tank(2500, 300, 140);
        a.tank(1500, 60, 60);
        a.tank(1500, 0, 0);
        a.point(0, 1000, 1800, 2200);
        a.point(0, 3000, 1900, 2100);
        a.point(1, 1500, 1800, 2200);
        a.point(1, 2000, 1900, 2100);
        a.point(1, 3000, 2000, 2000);
        return a;
    }

    /** All that there may be, but for one free slot, so that something fits there. */
    private static RefusalsTest full() {
        RefusalsTest a = new RefusalsTest("full");
        for (int h = 0; h < 4; h++) {
            a.hold(20000, 20000, 8);
        }
        for (int i = 0; i < 40; i++) {
            a.item(10 + i, i % 8, 1 + i % 4);
        }
        for (int i = 0; i < 31; i++) {
            a.put(i, i / 8, i % 8);
        }
        for (int r = 0; r < 10; r++) {
            a.row(1900 + 20 * r, r == 1 ? 8 : 3, r == 9 ? 2 : r % 4);
        }
        for (int n = 0; n < 4; n++) {
            a.tank(1700 + 200 * n, n == 3 ? 60 : 300, 50);
        }
        for (int p = 0; p < 10; p++) {
            a.point(0, 2100 + 100 * p, 1800 + p, 2200 - p);
            a.point(1, 2100 + 100 * p, 1800 + p, 2200 - p);
        }
        return a;
    }

    private void hold(int most, int floor, int slots) {
        PlainModel.Hold hold = new PlainModel.Hold();
        hold.most = most;
        hold.floor = floor;
        story.then("hold", most, floor);
        for (int s = 0; s < slots; s++) {
            int arm = 2000 - 10 * (slots - 1 - s);
            hold.slots.add(new int[] {arm, 200});
            story.then("slot", model.holds.size(), arm, 200);
        }
        model.holds.add(hold);
    }

    private void item(int weight, int kind, int stop) {
        PlainModel.Item item = new PlainModel.Item();
        item.weight = weight;
        item.kind = kind;
        item.stop = stop;
        model.items.add(item);
        story.then("item", weight, kind, stop);
    }

    private void put(int item, int hold, int slot) {
        model.put(model.items.get(item), hold, slot);
        story.then("load", item, hold, slot);
    }

    private void row(int arm, int seats, int taken) {
        story.then("row", arm, seats).then("seat", model.rows.size(), taken);
        model.rows.add(new int[] {arm, seats, taken});
    }

    private void tank(int arm, int most, int amount) {
        story.then("tank", arm, most).then("fuel", model.tanks.size(), amount);
        model.tanks.add(new int[] {arm, most, amount});
    }

    private void point(int phase, int weight, int least, int greatest) {
        model.phases.get(phase).add(new int[] {weight, least, greatest});
        story.then("point", phase, weight, least, greatest);
    }

    // ---- all calls with all mixtures of their numbers

    private void callAll() {
        story.mustBeGood(CHECKS);
        Map<String, int[][]> all = numbers();
        CHECKS.holds("every call", all.keySet().equals(new HashSet<>(Arrays.asList(Calls.NAMES))));
        for (Map.Entry<String, int[][]> call : all.entrySet()) {
            mix(call.getKey(), call.getValue(), new int[call.getValue().length], 0);
        }
    }

    private void mix(String name, int[][] numbers, int[] chosen, int n) {
        if (n == chosen.length) {
            callOne(name, chosen.clone());
            return;
        }
        for (int number : numbers[n]) {
            chosen[n] = number;
            mix(name, numbers, chosen, n + 1);
        }
    }

    private void callOne(String name, int[] a) {
        long want = refusal(name, a);
        if (want != 0) {
            story.changesNothing(CHECKS, state, want, name, a);
            return;
        }
        long got = Calls.call(story.told(), name, a);
        boolean isGood = got >= 0 || name.equals("best") && got == -5;
        CHECKS.holds(state + ": " + Calls.told(name, a) + " is not refused, but answered " + got, isGood);
        if (ASKING.contains(name) || isGood && got > 0 && name.equals("load") || got == -5) {
            story.changesNothing(CHECKS, state, got, name, a);
        }
    }

    // ---- the refusal that is due, of several the first one told; 0: none

    private long refusal(String name, int[] a) {
        switch (name) {
            case "empty": return isFrom(a[0], 1000, 100000) && isArm(a[1]) ? 0 : BAD;
            case "hold": return !isMost(a[0]) || !isMost(a[1]) ? BAD : model.holds.size() == 4 ? FULL : 0;
            case "slot": return ofSlot(a[0], a[1], a[2]);
            case "apart": return !isKind(a[0]) || !isKind(a[1]) ? NONE : isFrom(a[2], 0, 8) ? 0 : BAD;
            case "item": return ofItem(a[0], a[1], a[2]);
            case "row": return !isArm(a[0]) || !isFrom(a[1], 1, 8) ? BAD : model.rows.size() == 10 ? FULL : 0;
            case "tank": return !isArm(a[0]) || !isMost(a[1]) ? BAD : model.tanks.size() == 4 ? FULL : 0;
            case "person": return isFrom(a[0], 50, 150) ? 0 : BAD;
            case "seat": return !isOf(a[0], model.rows.size()) ? NONE
                : isFrom(a[1], 0, model.rows.get(a[0])[1]) ? 0 : BAD;
            case "fuel": return !isOf(a[0], model.tanks.size()) ? NONE
                : isFrom(a[1], 0, model.tanks.get(a[0])[1]) ? 0 : BAD;
            case "point": return ofPoint(a[0], a[1], a[2], a[3]);
            case "wipe": return isOf(a[0], 2) ? 0 : NONE;
            default: return refusalOfUse(name, a);
        }
    }

    private long refusalOfUse(String name, int[] a) {
        switch (name) {
            case "fits", "load": return !isItem(a[0]) || !isSlot(a[1], a[2]) ? NONE : isLoaded(a[0]) ? STATE : 0;
            case "unload": return !isItem(a[0]) ? NONE : isLoaded(a[0]) ? 0 : STATE;
            case "where": return isItem(a[0]) && isLoaded(a[0]) ? 0 : NONE;
            case "in": return isSlot(a[0], a[1]) && model.at(a[0], a[1]) != null ? 0 : NONE;
            case "about": return isOf(a[0], model.holds.size()) && isOf(a[1], 3) ? 0 : NONE;
            case "weight": return isOf(a[0], 3) ? 0 : NONE;
            case "moment": return isOf(a[0], 3) ? 0 : NO;
            case "burnt": return isFrom(a[0], 0, model.allFuel()) && isOf(a[1], 2) ? 0 : NO;
            case "within": return !isOf(a[0], 2) ? NONE : hasPoints(a[0]) ? 0 : STATE;
            case "safe": return a[0] < 0 ? BAD : hasPoints(0) && hasPoints(1) ? 0 : STATE;
            case "wrong": return a[0] < 0 ? BAD : !hasPoints(1) ? STATE : Math.min(0, model.wrong(a[0]));
            case "pushed": return isFrom(a[0], 0, 4) ? 0 : NONE;
            case "arrive": return isFrom(a[0], 1, 4) ? 0 : NONE;
            case "loadAll", "better": return isArm(a[0]) ? 0 : BAD;
            case "best": return !isArm(a[0]) ? BAD : isForBest() ? 0 : STATE;
            case "late": return isFrom(a[0], 0, 80) && isArm(a[1]) ? 0 : BAD;
            case "count": return isOf(a[0], 8) ? 0 : NONE;
            default: throw new IllegalArgumentException(name);
        }
    }

    private long ofSlot(int hold, int arm, int most) {
        if (!isOf(hold, model.holds.size())) {
            return NONE;
        }
        int slots = model.holds.get(hold).slots.size();
        boolean isAbove = slots == 0 || arm > model.holds.get(hold).slots.get(slots - 1)[0];
        return !isArm(arm) || !isAbove || !isMost(most) ? BAD : slots == 8 ? FULL : 0;
    }

    private long ofItem(int weight, int kind, int stop) {
        if (!isFrom(weight, 1, 5000)) {
            return BAD;
        }
        return !isKind(kind) || !isFrom(stop, 1, 4) ? NONE : model.items.size() == 40 ? FULL : 0;
    }

    private long ofPoint(int phase, int weight, int least, int greatest) {
        if (!isOf(phase, 2)) {
            return NONE;
        }
        int points = model.phases.get(phase).size();
        int last = points == 0 ? 0 : model.phases.get(phase).get(points - 1)[0];
        boolean isGood = isFrom(weight, 1, 1000000) && weight > last && isArm(least) && isArm(greatest)
                && least <= greatest;
        return !isGood ? BAD : points == 10 ? FULL : 0;
    }

    private boolean isForBest() {
        int waiting = 0;
        for (PlainModel.Item item : model.items) {
            waiting += item.hold < 0 ? 1 : 0;
        }
        int free = 0;
        for (int[] slot : model.allSlots()) {
            free += model.at(slot[0], slot[1]) == null ? 1 : 0;
        }
        return isFrom(waiting, 1, 4) && free <= 10;
    }

    private boolean hasPoints(int phase) {
        return !model.phases.get(phase).isEmpty();
    }

    private boolean isItem(int item) {
        return isOf(item, model.items.size());
    }

    private boolean isLoaded(int item) {
        return model.items.get(item).hold >= 0;
    }

    private boolean isSlot(int hold, int slot) {
        return isOf(hold, model.holds.size()) && isOf(slot, model.holds.get(hold).slots.size());
    }

    private static boolean isOf(int number, int many) {
        return isFrom(number, 0, many - 1);
    }

    private static boolean isFrom(int number, int least, int greatest) {
        return number >= least && number <= greatest;
    }

    private static boolean isArm(int arm) {
        return isFrom(arm, 0, 5000);
    }

    private static boolean isMost(int most) {
        return isFrom(most, 0, 20000);
    }

    private static boolean isKind(int kind) {
        return isFrom(kind, 0, 7);
    }
}
