import java.util.ArrayList;
import java.util.List;

/**
 * The document's words in their plainest form, without regard to speed: every moment of a flight is
 * looked at, every way is tried, every arm is a fraction. Only calls with good arguments reach it.
 */
final class PlainModel {
    static final class Hold {
        int most;
        int floor;
        final List<int[]> slots = new ArrayList<>();
    }

    static final class Item {
        int weight;
        int kind;
        int stop;
        int hold = -1;
        int slot = -1;
    }

    int emptyWeight = 1000;
    int emptyArm = 0;
    int person = 80;
    final List<Hold> holds = new ArrayList<>();
    final List<Item> items = new ArrayList<>();
    final List<int[]> rows = new ArrayList<>();
    final List<int[]> tanks = new ArrayList<>();
    final List<List<int[]>> phases = List.of(new ArrayList<>(), new ArrayList<>());
    final int[][] apart = new int[8][8];

    Item at(int hold, int slot) {
        for (Item item : items) {
            if (item.hold == hold && item.slot == slot) {
                return item;
            }
        }
        return null;
    }

    int fits(Item item, int hold, int slot) {
        if (at(hold, slot) != null) {
            return 1;
        }
        Hold h = holds.get(hold);
        if (item.weight > h.slots.get(slot)[1]) {
            return 2;
        }
        int sum = item.weight;
        for (Item other : items) {
            sum += other.hold == hold ? other.weight : 0;
        }
        if (sum > h.most) {
            return 3;
        }
        for (int near = slot - 1; near <= slot + 1; near += 2) {
            if (near >= 0 && near < h.slots.size()) {
                Item other = at(hold, near);
                if (item.weight + (other == null ? 0 : other.weight) > h.floor) {
                    return 4;
                }
            }
        }
        for (Item other : items) {
            if (other.hold == hold && Math.abs(other.slot - slot) < apart[item.kind][other.kind]) {
                return 5;
            }
        }
        return 0;
    }

    void put(Item item, int hold, int slot) {
        item.hold = hold;
        item.slot = slot;
    }

    int about(int hold, int what) {
        int weight = 0;
        int number = 0;
        for (Item item : items) {
            if (item.hold == hold) {
                weight += item.weight;
                number++;
            }
        }
        int pair = 0;
        for (int s = 0; s + 1 < holds.get(hold).slots.size(); s++) {
            int sum = 0;
            for (Item item : items) {
                if (item.hold == hold && (item.slot == s || item.slot == s + 1)) {
                    sum += item.weight;
                }
            }
            pair = Math.max(pair, sum);
        }
        return what == 0 ? weight : what == 1 ? number : pair;
    }

    /** Weight and moment of the state without fuel. */
    long[] dry() {
        long weight = emptyWeight;
        long moment = (long) emptyWeight * emptyArm;
        for (Item item : items) {
            if (item.hold >= 0) {
                weight += item.weight;
                moment += (long) item.weight * holds.get(item.hold).slots.get(item.slot)[0];
            }
        }
        for (int[] row : rows) {
            weight += (long) row[2] * person;
            moment += (long) row[2] * person * row[0];
        }
        return new long[] {weight, moment};
    }

    int allFuel() {
        int sum = 0;
        for (int[] tank : tanks) {
            sum += tank[2];
        }
        return sum;
    }

    /** Weight and moment of the state with all fuel but b measures, burnt one by one. */
    long[] flying(int b) {
        int[] left = new int[tanks.size()];
        for (int t = 0; t < left.length; t++) {
            left[t] = tanks.get(t)[2];
        }
        for (int n = 0; n < b; n++) {
            burnOne(left);
        }
        return withFuel(left);
    }

    private long[] withFuel(int[] left) {
        long[] state = dry();
        for (int t = 0; t < left.length; t++) {
            state[0] += left[t];
            state[1] += (long) left[t] * tanks.get(t)[0];
        }
        return state;
    }

    private static int burnOne(int[] left) {
        int t = left.length - 1;
        while (t >= 0 && left[t] == 0) {
            t--;
        }
        left[t]--;
        return t;
    }

    int within(int phase, long[] state) {
        List<int[]> points = phases.get(phase);
        long weight = state[0];
        if (weight < points.get(0)[0]) {
            return 1;
        }
        if (weight > points.get(points.size() - 1)[0]) {
            return 2;
        }
        int above = 0;
        while (points.get(above)[0] < weight) {
            above++;
        }
        int[] high = points.get(above);
        int[] low = high[0] == weight ? high : points.get(above - 1);
        long span = Math.max(1, high[0] - low[0]);
        long least = low[1] * (span - (weight - low[0])) + high[1] * (weight - low[0]);
        long greatest = low[2] * (span - (weight - low[0])) + high[2] * (weight - low[0]);
        if (state[1] * span < least * weight) {
            return 3;
        }
        return state[1] * span > greatest * weight ? 4 : 0;
    }

    int wrong(int fuel) {
        int[] left = new int[tanks.size()];
        for (int t = 0; t < left.length; t++) {
            left[t] = tanks.get(t)[2];
        }
        int end = Math.min(fuel, allFuel());
        long[] state = withFuel(left);
        for (int b = 0; b <= end; b++) {
            if (within(1, state) != 0) {
                return b;
            }
            if (b < end) {
                int t = burnOne(left);
                state[0]--;
                state[1] -= tanks.get(t)[0];
            }
        }
        return -1;
    }

    int safe(int fuel) {
        return within(0, dry()) == 0 && wrong(fuel) == -1 ? 1 : 0;
    }

    int pushed(int stop) {
        if (stop == 0) {
            return pushed(1) + pushed(2) + pushed(3) + pushed(4);
        }
        int sum = 0;
        for (Item item : items) {
            boolean isPushed = false;
            for (Item out : items) {
                isPushed |= item.hold >= 0 && item.hold == out.hold && out.stop == stop
                        && item.stop > stop && item.slot < out.slot;
            }
            sum += isPushed ? 1 : 0;
        }
        return sum;
    }

    int arrive(int stop) {
        int gone = 0;
        for (Item item : items) {
            if (item.stop == stop && item.hold >= 0) {
                put(item, -1, -1);
                gone++;
            }
        }
        return gone;
    }

    /** How far the dry arm is from a told one: numerator and denominator. */
    long[] far(int arm) {
        long[] dry = dry();
        return new long[] {Math.abs(dry[1] - arm * dry[0]), dry[0]};
    }

    static boolean isNearer(long[] one, long[] other) {
        return other == null || one[0] * other[1] < other[0] * one[1];
    }

    List<int[]> allSlots() {
        List<int[]> all = new ArrayList<>();
        for (int h = 0; h < holds.size(); h++) {
            for (int s = 0; s < holds.get(h).slots.size(); s++) {
                all.add(new int[] {h, s});
            }
        }
        return all;
    }

    int loadAll(int arm) {
        List<Item> waiting = new ArrayList<>();
        for (Item item : items) {
            if (item.hold < 0) {
                waiting.add(item);
            }
        }
        waiting.sort((a, b) -> b.weight - a.weight);
        int loaded = 0;
        for (Item item : waiting) {
            long[] least = null;
            int[] to = null;
            for (int[] slot : allSlots()) {
                if (fits(item, slot[0], slot[1]) == 0) {
                    put(item, slot[0], slot[1]);
                    long[] far = far(arm);
                    put(item, -1, -1);
                    if (isNearer(far, least)) {
                        least = far;
                        to = slot;
                    }
                }
            }
            if (to != null) {
                put(item, to[0], to[1]);
                loaded++;
            }
        }
        return loaded;
    }

    int better(int arm) {
        int done = 0;
        while (done < 50 && (swapOnce(arm) || moveOnce(arm))) {
            done++;
        }
        return done;
    }

    private boolean swapOnce(int arm) {
        for (int i = 0; i < items.size(); i++) {
            for (int j = i + 1; j < items.size(); j++) {
                Item a = items.get(i);
                Item b = items.get(j);
                if (a.hold >= 0 && b.hold >= 0 && swapped(a, b, arm)) {
                    return true;
                }
            }
        }
        return false;
    }

    private boolean swapped(Item a, Item b, int arm) {
        long[] before = far(arm);
        int[] old = {a.hold, a.slot, b.hold, b.slot};
        put(a, -1, -1);
        put(b, -1, -1);
        boolean fit = fits(a, old[2], old[3]) == 0 && fits(b, old[0], old[1]) == 0;
        put(a, old[2], old[3]);
        put(b, old[0], old[1]);
        if (fit && isNearer(far(arm), before)) {
            return true;
        }
        put(a, old[0], old[1]);
        put(b, old[2], old[3]);
        return false;
    }

    private boolean moveOnce(int arm) {
        for (Item item : items) {
            for (int[] slot : allSlots()) {
                if (item.hold >= 0 && at(slot[0], slot[1]) == null && moved(item, slot, arm)) {
                    return true;
                }
            }
        }
        return false;
    }

    private boolean moved(Item item, int[] slot, int arm) {
        long[] before = far(arm);
        int hold = item.hold;
        int from = item.slot;
        put(item, -1, -1);
        boolean fit = fits(item, slot[0], slot[1]) == 0;
        put(item, slot[0], slot[1]);
        if (fit && isNearer(far(arm), before)) {
            return true;
        }
        put(item, hold, from);
        return false;
    }

    private List<int[]> bestWay;
    private int bestPushed;
    private long[] bestFar;

    int best(int arm) {
        List<Item> waiting = new ArrayList<>();
        for (Item item : items) {
            if (item.hold < 0) {
                waiting.add(item);
            }
        }
        List<int[]> free = new ArrayList<>();
        for (int[] slot : allSlots()) {
            if (at(slot[0], slot[1]) == null) {
                free.add(slot);
            }
        }
        if (waiting.size() > 4 || free.size() > 10 || waiting.isEmpty()) {
            return -3;
        }
        bestWay = null;
        tryWays(waiting, free, new ArrayList<>(), arm);
        if (bestWay == null) {
            return -5;
        }
        for (int w = 0; w < waiting.size(); w++) {
            put(waiting.get(w), bestWay.get(w)[0], bestWay.get(w)[1]);
        }
        return pushed(0);
    }

    private void tryWays(List<Item> waiting, List<int[]> free, List<int[]> way, int arm) {
        if (way.size() == waiting.size()) {
            int pushed = pushed(0);
            long[] far = far(arm);
            if (bestWay == null || pushed < bestPushed || pushed == bestPushed && isNearer(far, bestFar)) {
                bestWay = new ArrayList<>(way);
                bestPushed = pushed;
                bestFar = far;
            }
            return;
        }
        Item item = waiting.get(way.size());
        for (int[] slot : free) {
            if (fits(item, slot[0], slot[1]) == 0) {
                put(item, slot[0], slot[1]);
                way.add(slot);
                tryWays(waiting, free, way, arm);
                way.remove(way.size() - 1);
                put(item, -1, -1);
            }
        }
    }

    int late(int n, int arm) {
        for (int seated = 0; seated < n; seated++) {
            int[] to = null;
            long[] least = null;
            for (int[] row : rows) {
                if (row[2] < row[1]) {
                    row[2]++;
                    long[] far = far(arm);
                    row[2]--;
                    if (isNearer(far, least)) {
                        least = far;
                        to = row;
                    }
                }
            }
            if (to == null) {
                return seated;
            }
            to[2]++;
        }
        return n;
    }
}
