import java.util.Arrays;

/** What goes where in an aircraft so that it balances all the way; ../shared/DOC.md holds the promises. */
public final class TrimSheet {
    public static final int NONE = -1, BAD = -2, STATE = -3, FULL = -4;
    public static final long NO = Long.MIN_VALUE;

    private static final int NO_WAY = -5;
    private static final int MAX_ARM = 5000;
    private static final int MAX_BORNE = 20000;
    private static final int DRY = 0, FLYING = 1;
    private static final int KINDS = 8;
    private static final int STOPS = 4;
    /** Bit s stands for stop s. */
    private static final int ALL_STOPS = 0b11110;
    private static final int MAX_BETTERED = 50;
    private static final int MAX_LATE = 80;

    private int emptyWeight = 1000;
    private int emptyArm = 0;
    private final Cargo cargo = new Cargo();
    private final Cabin cabin = new Cabin();
    private final Tanks tanks = new Tanks();
    private final Limits dryLimits = new Limits();
    private final Limits flyingLimits = new Limits();
    private final Flight flight = new Flight(tanks, flyingLimits);
    private final Swapper swapper = new Swapper(cargo);
    private final Search search = new Search(cargo);

    public TrimSheet() {
    }

    // ---- what there is

    public int empty(int weight, int arm) {
        if (!isFromTo(weight, 1000, 100000) || !isArm(arm)) {
            return BAD;
        }
        emptyWeight = weight;
        emptyArm = arm;
        return 0;
    }

    public int hold(int most, int floor) {
        if (!isBorne(most) || !isBorne(floor)) {
            return BAD;
        }
        return cargo.addHold(most, floor);
    }

    public int slot(int hold, int arm, int most) {
        if (!cargo.hasHold(hold)) {
            return NONE;
        }
        if (!isArm(arm) || arm <= cargo.lastArm(hold) || !isBorne(most)) {
            return BAD;
        }
        return cargo.addSlot(hold, arm, most);
    }

    public int apart(int x, int y, int d) {
        if (!isKind(x) || !isKind(y)) {
            return NONE;
        }
        if (!isFromTo(d, 0, 8)) {
            return BAD;
        }
        return cargo.setDistance(x, y, d);
    }

    public int item(int weight, int kind, int stop) {
        if (!isFromTo(weight, 1, 5000)) {
            return BAD;
        }
        if (!isKind(kind) || !isStop(stop)) {
            return NONE;
        }
        return cargo.addItem(weight, kind, stop);
    }

    public int row(int arm, int seats) {
        if (!isArm(arm) || !isFromTo(seats, 1, 8)) {
            return BAD;
        }
        return cabin.addRow(arm, seats);
    }

    public int tank(int arm, int most) {
        if (!isArm(arm) || !isBorne(most)) {
            return BAD;
        }
        return tanks.addTank(arm, most);
    }

    public int person(int weight) {
        if (!isFromTo(weight, 50, 150)) {
            return BAD;
        }
        int before = cabin.personWeight;
        cabin.personWeight = weight;
        return before;
    }

    public int seat(int row, int n) {
        if (!isFromTo(row, 0, cabin.rowCount - 1)) {
            return NONE;
        }
        if (!isFromTo(n, 0, cabin.seats[row])) {
            return BAD;
        }
        int before = cabin.taken[row];
        cabin.taken[row] = n;
        return before;
    }

    public int fuel(int tank, int amount) {
        if (!isFromTo(tank, 0, tanks.tankCount - 1)) {
            return NONE;
        }
        if (!isFromTo(amount, 0, tanks.most[tank])) {
            return BAD;
        }
        int before = tanks.amount[tank];
        tanks.amount[tank] = amount;
        return before;
    }

    public int point(int phase, int weight, int least, int greatest) {
        if (!isPhase(phase)) {
            return NONE;
        }
        Limits limits = limitsOf(phase);
        if (!isFromTo(weight, limits.lastWeight() + 1, 1000000)) {
            return BAD;
        }
        if (!isArm(least) || !isArm(greatest) || least > greatest) {
            return BAD;
        }
        return limits.addPoint(weight, least, greatest);
    }

    public int wipe(int phase) {
        if (!isPhase(phase)) {
            return NONE;
        }
        Limits limits = limitsOf(phase);
        int before = limits.pointCount;
        limits.pointCount = 0;
        return before;
    }

    // ---- loading

    public int fits(int item, int hold, int slot) {
        if (!cargo.hasItem(item) || !cargo.hasSlot(hold, slot)) {
            return NONE;
        }
        if (cargo.isLoaded(item)) {
            return STATE;
        }
        return cargo.hindrance(item, Cargo.placeOf(hold, slot));
    }

    public int load(int item, int hold, int slot) {
        int answer = fits(item, hold, slot);
        if (answer == 0) {
            cargo.putIn(item, Cargo.placeOf(hold, slot));
        }
        return answer;
    }

    public int unload(int item) {
        if (!cargo.hasItem(item)) {
            return NONE;
        }
        if (!cargo.isLoaded(item)) {
            return STATE;
        }
        cargo.takeOut(item);
        return 0;
    }

    public int where(int item) {
        return cargo.hasItem(item) ? cargo.placeOfItem[item] : NONE;
    }

    public int in(int hold, int slot) {
        return cargo.hasSlot(hold, slot) ? cargo.itemAt[Cargo.placeOf(hold, slot)] : NONE;
    }

    public int about(int hold, int what) {
        if (!cargo.hasHold(hold)) {
            return NONE;
        }
        switch (what) {
            case 0: return cargo.weightInHold(hold);
            case 1: return cargo.itemsInHold(hold);
            case 2: return cargo.heaviestPair(hold);
            default: return NONE;
        }
    }

    // ---- balance

    public int weight(int what) {
        switch (what) {
            case 0: return dryWeight();
            case 1: return dryWeight() + tanks.totalAmount();
            case 2: return tanks.totalAmount();
            default: return NONE;
        }
    }

    public long moment(int what) {
        switch (what) {
            case 0: return dryMoment();
            case 1: return dryMoment() + tanks.momentLeft(0);
            case 2: return tanks.momentLeft(0);
            default: return NO;
        }
    }

    public long burnt(int b, int what) {
        if (!isFromTo(b, 0, tanks.totalAmount())) {
            return NO;
        }
        switch (what) {
            case 0: return dryMoment() + tanks.momentLeft(b);
            case 1: return dryWeight() + tanks.totalAmount() - b;
            default: return NO;
        }
    }

    public int within(int phase) {
        if (!isPhase(phase)) {
            return NONE;
        }
        Limits limits = limitsOf(phase);
        if (limits.pointCount == 0) {
            return STATE;
        }
        return limits.judge(weight(phase), moment(phase));
    }

    public int safe(int fuel) {
        if (fuel < 0) {
            return BAD;
        }
        if (dryLimits.pointCount == 0 || flyingLimits.pointCount == 0) {
            return STATE;
        }
        if (dryLimits.judge(dryWeight(), dryMoment()) != 0) {
            return 0;
        }
        return flight.firstWrong(dryWeight(), dryMoment(), fuel) == NONE ? 1 : 0;
    }

    public int wrong(int fuel) {
        if (fuel < 0) {
            return BAD;
        }
        if (flyingLimits.pointCount == 0) {
            return STATE;
        }
        return flight.firstWrong(dryWeight(), dryMoment(), fuel);
    }

    // ---- stops

    public int pushed(int stop) {
        if (stop == 0) {
            return cargo.pushedInAll(ALL_STOPS);
        }
        return isStop(stop) ? cargo.pushedInAll(1 << stop) : NONE;
    }

    public int arrive(int stop) {
        return isStop(stop) ? cargo.takeOutAllOf(stop) : NONE;
    }

    // ---- by rules

    public int loadAll(int arm) {
        return isArm(arm) ? cargo.loadHeaviestFirst(arm, lean(arm)) : BAD;
    }

    public int better(int arm) {
        if (!isArm(arm)) {
            return BAD;
        }
        for (int done = 0; done < MAX_BETTERED; done++) {
            long lean = lean(arm);
            if (!swapper.doFirstGoodSwap(lean) && !swapper.doFirstGoodMove(arm, lean)) {
                return done;
            }
        }
        return MAX_BETTERED;
    }

    public int best(int arm) {
        if (!isArm(arm)) {
            return BAD;
        }
        if (!search.gather()) {
            return STATE;
        }
        return search.loadBest(arm, lean(arm));
    }

    public int late(int n, int arm) {
        if (!isFromTo(n, 0, MAX_LATE) || !isArm(arm)) {
            return BAD;
        }
        return cabin.seatLate(n, arm, lean(arm));
    }

    public int count(int what) {
        switch (what) {
            case 0: return cargo.holdCount;
            case 1: return cargo.slotsInAll();
            case 2: return cargo.itemCount;
            case 3: return cargo.loadedInAll();
            case 4: return cabin.rowCount;
            case 5: return cabin.passengers();
            case 6: return tanks.tankCount;
            case 7: return cabin.personWeight;
            default: return NONE;
        }
    }

    // ---- shared by the calls

    private static boolean isFromTo(int number, int least, int greatest) {
        return number >= least && number <= greatest;
    }

    private static boolean isArm(int arm) {
        return isFromTo(arm, 0, MAX_ARM);
    }

    private static boolean isBorne(int most) {
        return isFromTo(most, 0, MAX_BORNE);
    }

    private static boolean isKind(int kind) {
        return isFromTo(kind, 0, KINDS - 1);
    }

    private static boolean isStop(int stop) {
        return isFromTo(stop, 1, STOPS);
    }

    private static boolean isPhase(int phase) {
        return phase == DRY || phase == FLYING;
    }

    private Limits limitsOf(int phase) {
        return phase == DRY ? dryLimits : flyingLimits;
    }

    private int dryWeight() {
        return emptyWeight + cargo.loadedWeight() + cabin.takenWeight();
    }

    private long dryMoment() {
        return (long) emptyWeight * emptyArm + cargo.loadedMoment() + cabin.takenMoment();
    }

    /**
     * How far the dry state leans from an arm: its moment about that arm. Wherever the rules choose
     * the nearest arm, all choices weigh the same, so the least lean (without its sign) is the
     * nearest arm as a fraction, and nothing needs to be divided.
     */
    private long lean(int arm) {
        return dryMoment() - (long) arm * dryWeight();
    }

    /** Holds with their slots, and items. A place is 8 times a hold and a slot of it. */
    private static final class Cargo {
        static final int MAX_HOLDS = 4, MAX_SLOTS = 8, MAX_ITEMS = 40;

        final int[] holdMost = new int[MAX_HOLDS];
        final int[] holdFloor = new int[MAX_HOLDS];
        final int[] slotCount = new int[MAX_HOLDS];
        int holdCount = 0;

        final int[] slotArm = new int[MAX_HOLDS * MAX_SLOTS];
        final int[] slotMost = new int[MAX_HOLDS * MAX_SLOTS];
        final int[] itemAt = new int[MAX_HOLDS * MAX_SLOTS];

        final int[] itemWeight = new int[MAX_ITEMS];
        final int[] itemKind = new int[MAX_ITEMS];
        final int[] itemStop = new int[MAX_ITEMS];
        final int[] placeOfItem = new int[MAX_ITEMS];
        /** Items in the order in which the rule loads them; kept from the start, as no weight changes. */
        final int[] heaviestFirst = new int[MAX_ITEMS];
        int itemCount = 0;

        final int[] distance = new int[KINDS * KINDS];

        Cargo() {
            Arrays.fill(itemAt, NONE);
            Arrays.fill(placeOfItem, NONE);
        }

        static int placeOf(int hold, int slot) {
            return hold * MAX_SLOTS + slot;
        }

        boolean hasHold(int hold) {
            return hold >= 0 && hold < holdCount;
        }

        boolean hasSlot(int hold, int slot) {
            return hasHold(hold) && slot >= 0 && slot < slotCount[hold];
        }

        boolean hasItem(int item) {
            return item >= 0 && item < itemCount;
        }

        boolean isLoaded(int item) {
            return placeOfItem[item] != NONE;
        }

        int addHold(int most, int floor) {
            if (holdCount >= MAX_HOLDS) {
                return FULL;
            }
            holdMost[holdCount] = most;
            holdFloor[holdCount] = floor;
            return holdCount++;
        }

        /** The arm that the next slot must be above; any arm is above that of no slot. */
        int lastArm(int hold) {
            int slots = slotCount[hold];
            return slots == 0 ? -1 : slotArm[placeOf(hold, slots - 1)];
        }

        int addSlot(int hold, int arm, int most) {
            int slot = slotCount[hold];
            if (slot >= MAX_SLOTS) {
                return FULL;
            }
            slotArm[placeOf(hold, slot)] = arm;
            slotMost[placeOf(hold, slot)] = most;
            slotCount[hold] = slot + 1;
            return slot;
        }

        int setDistance(int x, int y, int d) {
            int before = distance[x * KINDS + y];
            distance[x * KINDS + y] = d;
            distance[y * KINDS + x] = d;
            return before;
        }

        int addItem(int weight, int kind, int stop) {
            if (itemCount >= MAX_ITEMS) {
                return FULL;
            }
            itemWeight[itemCount] = weight;
            itemKind[itemCount] = kind;
            itemStop[itemCount] = stop;
            rankByWeight(itemCount, weight);
            return itemCount++;
        }

        private void rankByWeight(int item, int weight) {
            int rank = item;
            while (rank > 0 && itemWeight[heaviestFirst[rank - 1]] < weight) {
                heaviestFirst[rank] = heaviestFirst[rank - 1];
                rank--;
            }
            heaviestFirst[rank] = item;
        }

        void putIn(int item, int place) {
            itemAt[place] = item;
            placeOfItem[item] = place;
        }

        void takeOut(int item) {
            int place = placeOfItem[item];
            if (place != NONE) {
                itemAt[place] = NONE;
                placeOfItem[item] = NONE;
            }
        }

        int takeOutAllOf(int stop) {
            int gone = 0;
            for (int item = 0; item < itemCount; item++) {
                if (itemStop[item] == stop && isLoaded(item)) {
                    takeOut(item);
                    gone++;
                }
            }
            return gone;
        }

        /** Why an item does not fit into a place, by the numbers of fits(); 0: it does. */
        int hindrance(int item, int place) {
            int hold = place / MAX_SLOTS;
            int weight = itemWeight[item];
            if (itemAt[place] != NONE) {
                return 1;
            }
            if (weight > slotMost[place]) {
                return 2;
            }
            if (weightInHold(hold) + weight > holdMost[hold]) {
                return 3;
            }
            if (isTooMuchForFloor(weight, place)) {
                return 4;
            }
            return isTooNear(item, place) ? 5 : 0;
        }

        private boolean isTooMuchForFloor(int weight, int place) {
            int hold = place / MAX_SLOTS;
            int slot = place % MAX_SLOTS;
            int floor = holdFloor[hold];
            boolean isTooMuchBefore = slot > 0 && weightAt(place - 1) + weight > floor;
            boolean isTooMuchBehind = slot + 1 < slotCount[hold] && weightAt(place + 1) + weight > floor;
            return isTooMuchBefore || isTooMuchBehind;
        }

        private boolean isTooNear(int item, int place) {
            int hold = place / MAX_SLOTS;
            int kind = itemKind[item];
            for (int slot = 0; slot < slotCount[hold]; slot++) {
                int other = itemAt[placeOf(hold, slot)];
                if (other != NONE) {
                    int steps = Math.abs(placeOf(hold, slot) - place);
                    if (steps < distance[kind * KINDS + itemKind[other]]) {
                        return true;
                    }
                }
            }
            return false;
        }

        int weightAt(int place) {
            int item = itemAt[place];
            return item == NONE ? 0 : itemWeight[item];
        }

        int weightInHold(int hold) {
            int sum = 0;
            for (int slot = 0; slot < slotCount[hold]; slot++) {
                sum += weightAt(placeOf(hold, slot));
            }
            return sum;
        }

        int itemsInHold(int hold) {
            int sum = 0;
            for (int slot = 0; slot < slotCount[hold]; slot++) {
                if (itemAt[placeOf(hold, slot)] != NONE) {
                    sum++;
                }
            }
            return sum;
        }

        int heaviestPair(int hold) {
            int heaviest = 0;
            for (int slot = 1; slot < slotCount[hold]; slot++) {
                int place = placeOf(hold, slot);
                heaviest = Math.max(heaviest, weightAt(place - 1) + weightAt(place));
            }
            return heaviest;
        }

        int slotsInAll() {
            int sum = 0;
            for (int hold = 0; hold < holdCount; hold++) {
                sum += slotCount[hold];
            }
            return sum;
        }

        int loadedInAll() {
            int sum = 0;
            for (int item = 0; item < itemCount; item++) {
                if (isLoaded(item)) {
                    sum++;
                }
            }
            return sum;
        }

        int loadedWeight() {
            int sum = 0;
            for (int item = 0; item < itemCount; item++) {
                if (isLoaded(item)) {
                    sum += itemWeight[item];
                }
            }
            return sum;
        }

        long loadedMoment() {
            long sum = 0;
            for (int item = 0; item < itemCount; item++) {
                if (isLoaded(item)) {
                    sum += leanAt(item, placeOfItem[item], 0);
                }
            }
            return sum;
        }

        /** What an item in a place adds to the lean from an arm. */
        long leanAt(int item, int place, int arm) {
            return (long) itemWeight[item] * (slotArm[place] - arm);
        }

        int pushedInAll(int stops) {
            int sum = 0;
            for (int hold = 0; hold < holdCount; hold++) {
                sum += pushedInHold(hold, stops);
            }
            return sum;
        }

        /**
         * How often items are pushed in a hold at the stops whose bits are set. An item is pushed
         * once at each stop before its own at which something behind it goes out.
         */
        int pushedInHold(int hold, int stops) {
            int sum = 0;
            int stopsBehind = 0;
            for (int slot = slotCount[hold] - 1; slot >= 0; slot--) {
                int item = itemAt[placeOf(hold, slot)];
                if (item != NONE) {
                    int ownStop = 1 << itemStop[item];
                    sum += Integer.bitCount(stopsBehind & stops & (ownStop - 1));
                    stopsBehind |= ownStop;
                }
            }
            return sum;
        }

        int loadHeaviestFirst(int arm, long leanBefore) {
            long lean = leanBefore;
            int loaded = 0;
            for (int rank = 0; rank < itemCount; rank++) {
                int item = heaviestFirst[rank];
                if (!isLoaded(item)) {
                    int place = nearestPlace(item, arm, lean);
                    if (place != NONE) {
                        putIn(item, place);
                        lean += leanAt(item, place, arm);
                        loaded++;
                    }
                }
            }
            return loaded;
        }

        private int nearestPlace(int item, int arm, long lean) {
            int nearest = NONE;
            long leastLean = 0;
            for (int hold = 0; hold < holdCount; hold++) {
                for (int slot = 0; slot < slotCount[hold]; slot++) {
                    int place = placeOf(hold, slot);
                    long thenLean = Math.abs(lean + leanAt(item, place, arm));
                    boolean isNearer = nearest == NONE || thenLean < leastLean;
                    if (isNearer && hindrance(item, place) == 0) {
                        nearest = place;
                        leastLean = thenLean;
                    }
                }
            }
            return nearest;
        }
    }

    /** Swaps and moves of loaded items that bring the dry arm nearer to a told one. */
    private static final class Swapper {
        private final Cargo cargo;

        Swapper(Cargo cargo) {
            this.cargo = cargo;
        }

        boolean doFirstGoodSwap(long lean) {
            for (int lesser = 0; lesser < cargo.itemCount; lesser++) {
                if (cargo.isLoaded(lesser) && doFirstGoodSwapOf(lesser, lean)) {
                    return true;
                }
            }
            return false;
        }

        private boolean doFirstGoodSwapOf(int lesser, long lean) {
            for (int greater = lesser + 1; greater < cargo.itemCount; greater++) {
                if (cargo.isLoaded(greater) && isNearerSwapped(lesser, greater, lean)
                        && swapIfBothFit(lesser, greater)) {
                    return true;
                }
            }
            return false;
        }

        private boolean isNearerSwapped(int one, int other, long lean) {
            long oneArm = cargo.slotArm[cargo.placeOfItem[one]];
            long otherArm = cargo.slotArm[cargo.placeOfItem[other]];
            long change = (cargo.itemWeight[one] - cargo.itemWeight[other]) * (otherArm - oneArm);
            return Math.abs(lean + change) < Math.abs(lean);
        }

        private boolean swapIfBothFit(int one, int other) {
            int onePlace = cargo.placeOfItem[one];
            int otherPlace = cargo.placeOfItem[other];
            cargo.takeOut(one);
            cargo.takeOut(other);
            boolean bothFit = cargo.hindrance(one, otherPlace) == 0 && cargo.hindrance(other, onePlace) == 0;
            cargo.putIn(one, bothFit ? otherPlace : onePlace);
            cargo.putIn(other, bothFit ? onePlace : otherPlace);
            return bothFit;
        }

        boolean doFirstGoodMove(int arm, long lean) {
            for (int item = 0; item < cargo.itemCount; item++) {
                if (cargo.isLoaded(item) && moveIfGood(item, arm, lean)) {
                    return true;
                }
            }
            return false;
        }

        private boolean moveIfGood(int item, int arm, long lean) {
            int before = cargo.placeOfItem[item];
            cargo.takeOut(item);
            int place = firstGoodPlace(item, arm, lean, lean - cargo.leanAt(item, before, arm));
            cargo.putIn(item, place == NONE ? before : place);
            return place != NONE;
        }

        /** The item's old place is free here, but never nearer than it was. */
        private int firstGoodPlace(int item, int arm, long leanBefore, long leanWithout) {
            for (int hold = 0; hold < cargo.holdCount; hold++) {
                for (int slot = 0; slot < cargo.slotCount[hold]; slot++) {
                    int place = Cargo.placeOf(hold, slot);
                    long leanThen = leanWithout + cargo.leanAt(item, place, arm);
                    if (Math.abs(leanThen) < Math.abs(leanBefore) && cargo.hindrance(item, place) == 0) {
                        return place;
                    }
                }
            }
            return NONE;
        }
    }

    /** Tries all ways to load the few items that wait into the few places that are free. */
    private static final class Search {
        private static final int MAX_WAITING = 4, MAX_FREE = 10;

        private final Cargo cargo;
        private final int[] waiting = new int[MAX_WAITING];
        private final int[] bestPlace = new int[MAX_WAITING];
        private final int[] free = new int[MAX_FREE];
        private int waitingCount = 0;
        private int freeCount = 0;
        private int arm = 0;
        private boolean hasWay = false;
        private int leastPushed = 0;
        private long leastLean = 0;

        Search(Cargo cargo) {
            this.cargo = cargo;
        }

        /** False: there are too many items or places, or no item that waits. */
        boolean gather() {
            return gatherWaiting() && gatherFree() && waitingCount > 0;
        }

        private boolean gatherWaiting() {
            waitingCount = 0;
            for (int item = 0; item < cargo.itemCount; item++) {
                if (!cargo.isLoaded(item)) {
                    if (waitingCount >= MAX_WAITING) {
                        return false;
                    }
                    waiting[waitingCount++] = item;
                }
            }
            return true;
        }

        private boolean gatherFree() {
            freeCount = 0;
            for (int hold = 0; hold < cargo.holdCount; hold++) {
                for (int slot = 0; slot < cargo.slotCount[hold]; slot++) {
                    int place = Cargo.placeOf(hold, slot);
                    if (cargo.itemAt[place] == NONE) {
                        if (freeCount >= MAX_FREE) {
                            return false;
                        }
                        free[freeCount++] = place;
                    }
                }
            }
            return true;
        }

        int loadBest(int toldArm, long lean) {
            arm = toldArm;
            hasWay = false;
            tryAllFrom(0, cargo.pushedInAll(ALL_STOPS), lean);
            if (!hasWay) {
                return NO_WAY;
            }
            for (int w = 0; w < waitingCount; w++) {
                cargo.putIn(waiting[w], bestPlace[w]);
            }
            return leastPushed;
        }

        /** The first of several alike ways is found first, so only a better one takes its place. */
        private void tryAllFrom(int w, int pushedNow, long leanNow) {
            // What is loaded on top never lessens what is pushed.
            if (hasWay && pushedNow > leastPushed) {
                return;
            }
            if (w >= waitingCount) {
                keepIfBetter(pushedNow, Math.abs(leanNow));
                return;
            }
            int item = waiting[w];
            for (int f = 0; f < freeCount; f++) {
                int place = free[f];
                if (cargo.hindrance(item, place) == 0) {
                    int hold = place / Cargo.MAX_SLOTS;
                    int pushedElsewhere = pushedNow - cargo.pushedInHold(hold, ALL_STOPS);
                    cargo.putIn(item, place);
                    int pushedThen = pushedElsewhere + cargo.pushedInHold(hold, ALL_STOPS);
                    tryAllFrom(w + 1, pushedThen, leanNow + cargo.leanAt(item, place, arm));
                    cargo.takeOut(item);
                }
            }
        }

        private void keepIfBetter(int pushedThen, long leanThen) {
            boolean isBetter = !hasWay || pushedThen < leastPushed
                    || pushedThen == leastPushed && leanThen < leastLean;
            if (isBetter) {
                hasWay = true;
                leastPushed = pushedThen;
                leastLean = leanThen;
                for (int w = 0; w < waitingCount; w++) {
                    bestPlace[w] = cargo.placeOfItem[waiting[w]];
                }
            }
        }
    }

    /** Rows of seats, and the passengers in them. */
    private static final class Cabin {
        static final int MAX_ROWS = 10;

        final int[] arm = new int[MAX_ROWS];
        final int[] seats = new int[MAX_ROWS];
        final int[] taken = new int[MAX_ROWS];
        int rowCount = 0;
        int personWeight = 80;

        int addRow(int rowArm, int rowSeats) {
            if (rowCount >= MAX_ROWS) {
                return FULL;
            }
            arm[rowCount] = rowArm;
            seats[rowCount] = rowSeats;
            return rowCount++;
        }

        int passengers() {
            int sum = 0;
            for (int r = 0; r < rowCount; r++) {
                sum += taken[r];
            }
            return sum;
        }

        int takenWeight() {
            return passengers() * personWeight;
        }

        long takenMoment() {
            long sum = 0;
            for (int r = 0; r < rowCount; r++) {
                sum += taken[r] * leanIn(r, 0);
            }
            return sum;
        }

        /** What one passenger in a row adds to the lean from an arm. */
        private long leanIn(int r, int toldArm) {
            return (long) personWeight * (arm[r] - toldArm);
        }

        int seatLate(int n, int toldArm, long leanBefore) {
            long lean = leanBefore;
            for (int seated = 0; seated < n; seated++) {
                int r = nearestRow(toldArm, lean);
                if (r == NONE) {
                    return seated;
                }
                taken[r]++;
                lean += leanIn(r, toldArm);
            }
            return n;
        }

        private int nearestRow(int toldArm, long lean) {
            int nearest = NONE;
            long leastLean = 0;
            for (int r = 0; r < rowCount; r++) {
                long leanThen = Math.abs(lean + leanIn(r, toldArm));
                if (taken[r] < seats[r] && (nearest == NONE || leanThen < leastLean)) {
                    nearest = r;
                    leastLean = leanThen;
                }
            }
            return nearest;
        }
    }

    /** Tanks, burnt from the last one down. */
    private static final class Tanks {
        static final int MAX_TANKS = 4;

        final int[] arm = new int[MAX_TANKS];
        final int[] most = new int[MAX_TANKS];
        final int[] amount = new int[MAX_TANKS];
        int tankCount = 0;

        int addTank(int tankArm, int tankMost) {
            if (tankCount >= MAX_TANKS) {
                return FULL;
            }
            arm[tankCount] = tankArm;
            most[tankCount] = tankMost;
            return tankCount++;
        }

        int totalAmount() {
            int sum = 0;
            for (int t = 0; t < tankCount; t++) {
                sum += amount[t];
            }
            return sum;
        }

        /** The moment of the fuel that is left when b measures have been burnt. */
        long momentLeft(int b) {
            long sum = 0;
            int toBurn = b;
            for (int t = tankCount - 1; t >= 0; t--) {
                int gone = Math.min(toBurn, amount[t]);
                toBurn -= gone;
                sum += (long) (amount[t] - gone) * arm[t];
            }
            return sum;
        }

        /** The first moment from b on at which some tank has just run dry. */
        int nextDryMoment(int b) {
            int gone = 0;
            for (int t = tankCount - 1; t >= 0; t--) {
                gone += amount[t];
                if (gone >= b) {
                    return gone;
                }
            }
            return b;
        }
    }

    /** The limits of a phase. A line is numbered by the point that it starts from. */
    private static final class Limits {
        static final int MAX_POINTS = 10;

        final int[] pointWeight = new int[MAX_POINTS];
        final int[] least = new int[MAX_POINTS];
        final int[] greatest = new int[MAX_POINTS];
        int pointCount = 0;

        int lastWeight() {
            return pointCount == 0 ? 0 : pointWeight[pointCount - 1];
        }

        int addPoint(int weight, int leastArm, int greatestArm) {
            if (pointCount >= MAX_POINTS) {
                return FULL;
            }
            pointWeight[pointCount] = weight;
            least[pointCount] = leastArm;
            greatest[pointCount] = greatestArm;
            return ++pointCount;
        }

        /** How a state lies to the limits, by the numbers of within(). */
        int judge(int weight, long moment) {
            if (weight < pointWeight[0]) {
                return 1;
            }
            if (weight > lastWeight()) {
                return 2;
            }
            int line = lineAt(weight);
            if (excess(least, line, weight, moment) < 0) {
                return 3;
            }
            return excess(greatest, line, weight, moment) > 0 ? 4 : 0;
        }

        boolean spans(int weight) {
            return weight >= pointWeight[0] && weight <= lastWeight();
        }

        /** The first line that reaches up to a weight; at a point that is the line below it. */
        int lineAt(int weight) {
            int line = 0;
            while (line + 2 < pointCount && weight > pointWeight[line + 1]) {
                line++;
            }
            return line;
        }

        /**
         * Has the sign of a state's arm less the arm on a line: the difference, times the weight and
         * the weights that the line spans, so that all numbers are whole.
         */
        long excess(int[] arms, int line, int weight, long moment) {
            if (line + 1 >= pointCount) {
                return moment - (long) weight * arms[line];
            }
            long span = pointWeight[line + 1] - pointWeight[line];
            long above = weight - pointWeight[line];
            long armTimesSpan = arms[line] * span + rise(arms, line) * above;
            return moment * span - weight * armTimesSpan;
        }

        /** How much the arm grows along a line. */
        long rise(int[] arms, int line) {
            return line + 1 < pointCount ? arms[line + 1] - arms[line] : 0;
        }
    }

    /**
     * The moments of a flight. As long as one tank burns and the weight stays on one line of the
     * limits, the room to the limit is a quadratic of the fuel burnt: such a stretch is judged as
     * a whole, by a few of its moments.
     */
    private static final class Flight {
        /** Far above the stretches that 4 tanks and 9 lines can make. */
        private static final int MAX_STRETCHES = 100;
        /** More halvings than any stretch has room for. */
        private static final int MAX_HALVINGS = 40;

        private final Tanks tanks;
        private final Limits limits;
        private int fullWeight = 0;
        private long dryMoment = 0;

        Flight(Tanks tanks, Limits limits) {
            this.tanks = tanks;
            this.limits = limits;
        }

        int firstWrong(int dryWeight, long toldDryMoment, int fuel) {
            int allFuel = tanks.totalAmount();
            int end = Math.min(fuel, allFuel);
            fullWeight = dryWeight + allFuel;
            dryMoment = toldDryMoment;
            int from = 0;
            for (int stretch = 0; stretch < MAX_STRETCHES && from <= end; stretch++) {
                int weight = fullWeight - from;
                if (!limits.spans(weight)) {
                    return from;
                }
                int line = limits.lineAt(weight);
                int lineEnd = fullWeight - limits.pointWeight[line];
                int to = Math.min(end, Math.min(lineEnd, tanks.nextDryMoment(from)));
                int outside = firstOutside(line, from, to);
                if (outside != NONE) {
                    return outside;
                }
                from = to + 1;
            }
            return NONE;
        }

        private int firstOutside(int line, int from, int to) {
            int inFront = firstWithoutRoom(line, true, from, to);
            int behind = firstWithoutRoom(line, false, from, inFront == NONE ? to : inFront);
            return behind == NONE ? inFront : behind;
        }

        private int firstWithoutRoom(int line, boolean toLeast, int from, int to) {
            if (room(line, toLeast, from) < 0) {
                return from;
            }
            // From here to 'lowest' the room, once it is below 0, stays so.
            int lowest = isHollow(line, toLeast) ? bottom(line, toLeast, from, to) : to;
            if (room(line, toLeast, lowest) >= 0) {
                return NONE;
            }
            int good = from;
            int bad = lowest;
            for (int h = 0; h < MAX_HALVINGS && bad - good > 1; h++) {
                int middle = (good + bad) / 2;
                if (room(line, toLeast, middle) < 0) {
                    bad = middle;
                } else {
                    good = middle;
                }
            }
            return bad;
        }

        /** How far a state is inside the least or the greatest arm; below 0: it is outside. */
        private long room(int line, boolean toLeast, int b) {
            int weight = fullWeight - b;
            long moment = dryMoment + tanks.momentLeft(b);
            return toLeast ? limits.excess(limits.least, line, weight, moment)
                    : -limits.excess(limits.greatest, line, weight, moment);
        }

        /** Whether the room, along a line, may fall first and then rise again. */
        private boolean isHollow(int line, boolean toLeast) {
            return toLeast ? limits.rise(limits.least, line) < 0 : limits.rise(limits.greatest, line) > 0;
        }

        /** The moment of the least room, if the room is hollow. */
        private int bottom(int line, boolean toLeast, int from, int to) {
            int low = from;
            int high = to;
            for (int h = 0; h < MAX_HALVINGS && low < high; h++) {
                int middle = (low + high) / 2;
                if (room(line, toLeast, middle + 1) < room(line, toLeast, middle)) {
                    low = middle + 1;
                } else {
                    high = middle;
                }
            }
            return low;
        }
    }
}
