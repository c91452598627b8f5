import java.util.Arrays;
import java.util.Random;

/**
 * Many runs of calls, by chance but always the same ones, answered by TrimSheet as by PlainModel:
 * 512 calls of each object, as many as it is promised to answer.
 */
public final class ModelTest {
    private static final Checks CHECKS = new Checks();
    private static final int CALLS = 512;
    /** No step below makes more calls at once. */
    private static final int CALLS_OF_A_STEP = 60;

    private final Random random;
    private final TrimSheet sheet = new TrimSheet();
    private final PlainModel model = new PlainModel();
    private final int run;
    private final StringBuilder calls = new StringBuilder();
    private final int[] seenPlace = new int[40];
    private boolean isWrong = false;
    private int made = 0;

    private ModelTest(int run) {
        this.run = run;
        this.random = new Random(7919L * run + 17);
        Arrays.fill(seenPlace, -1);
    }

    public static void main(String[] args) {
        int runs = args.length > 0 ? Integer.parseInt(args[0]) : 3000;
        for (int run = 0; run < runs; run++) {
            ModelTest test = new ModelTest(run);
            test.build();
            while (test.made <= CALLS - CALLS_OF_A_STEP && !test.isWrong) {
                test.callOne();
            }
            while (test.made < CALLS && !test.isWrong) {
                test.callRule();
            }
            new ModelTest(run).fly();
        }
        CHECKS.end("ModelTest");
    }

    private void due(String call, long got, long want) {
        made++;
        calls.append(call).append("; ");
        if (got != want) {
            isWrong = true;
            System.out.println("run " + run + ": " + calls);
        }
        CHECKS.due("run " + run + " " + call, got, want);
    }

    private int below(int n) {
        return random.nextInt(n);
    }

    private int from(int least, int greatest) {
        return least + below(greatest - least + 1);
    }

    // ---- an aircraft by chance

    private void build() {
        setEmpty(from(1000, 3000), from(1500, 2500));
        int holds = below(20) == 0 ? 0 : from(1, 4);
        for (int h = 0; h < holds; h++) {
            addHold(Math.min(8, from(0, below(3) == 0 ? 8 : 16 / holds)));
        }
        for (int n = below(4); n > 0; n--) {
            tellApart();
        }
        for (int n = below(below(3) == 0 ? 41 : 8); n > 0; n--) {
            addItem();
        }
        for (int n = below(5); n > 0; n--) {
            addRow();
        }
        for (int n = below(5); n > 0; n--) {
            addTank(600);
        }
        addPoints(0);
        addPoints(1);
    }

    private void setEmpty(int weight, int arm) {
        model.emptyWeight = weight;
        model.emptyArm = arm;
        due("empty(" + model.emptyWeight + ", " + model.emptyArm + ")",
                sheet.empty(model.emptyWeight, model.emptyArm), 0);
    }

    private void addHold(int slots) {
        PlainModel.Hold hold = new PlainModel.Hold();
        hold.most = from(100, 3000);
        hold.floor = from(50, 800);
        int h = model.holds.size();
        model.holds.add(hold);
        due("hold(" + hold.most + ", " + hold.floor + ")", sheet.hold(hold.most, hold.floor), h);
        // Few arms, so that several slots are often as near.
        int arm = 500 * from(0, 4);
        for (int s = 0; s < slots; s++) {
            arm += below(2) == 0 ? 100 : from(1, 300);
            int most = from(50, 400);
            hold.slots.add(new int[] {arm, most});
            due("slot(" + h + ", " + arm + ", " + most + ")", sheet.slot(h, arm, most), s);
        }
    }

    private void tellApart() {
        int x = below(3);
        int y = below(3);
        int d = below(4);
        due("apart(" + x + ", " + y + ", " + d + ")", sheet.apart(x, y, d), model.apart[x][y]);
        model.apart[x][y] = d;
        model.apart[y][x] = d;
    }

    private void addItem() {
        if (model.items.size() < 40) {
            PlainModel.Item item = new PlainModel.Item();
            item.weight = below(2) == 0 ? 50 * from(1, 4) : from(1, 300);
            item.kind = below(3);
            item.stop = from(1, 4);
            due("item(" + item.weight + ", " + item.kind + ", " + item.stop + ")",
                    sheet.item(item.weight, item.kind, item.stop), model.items.size());
            model.items.add(item);
        }
    }

    private void addRow() {
        int arm = 100 * from(10, 30);
        int seats = from(1, 8);
        due("row(" + arm + ", " + seats + ")", sheet.row(arm, seats), model.rows.size());
        model.rows.add(new int[] {arm, seats, 0});
    }

    private void addTank(int most) {
        int t = model.tanks.size();
        int arm = from(0, 5000);
        int amount = below(4) == 0 ? 0 : below(most + 1);
        due("tank(" + arm + ", " + most + ")", sheet.tank(arm, most), t);
        due("fuel(" + t + ", " + amount + ")", sheet.fuel(t, amount), 0);
        model.tanks.add(new int[] {arm, most, amount});
    }

    private void addPoint(int phase, int weight, int least, int greatest) {
        model.phases.get(phase).add(new int[] {weight, least, greatest});
        due("point(" + phase + ", " + weight + ", " + least + ", " + greatest + ")",
                sheet.point(phase, weight, least, greatest), model.phases.get(phase).size());
    }

    private void addPoints(int phase) {
        int points = below(11);
        int weight = from(500, 1500);
        for (int p = 0; p < points; p++) {
            addPoint(phase, weight, from(1000, 2000), from(2000, 3500));
            weight += from(1, 1500);
        }
    }

    // ---- calls by chance

    private void callOne() {
        switch (below(16)) {
            case 0 -> callMore();
            case 1, 2, 3 -> callLoad();
            case 4 -> callUnload();
            case 5 -> callBalance();
            case 6 -> callLimits();
            case 7 -> callFuelOrSeat();
            case 8 -> callAbout();
            case 9, 10 -> callStops();
            case 11 -> due("loadAll", sheet.loadAll(2000), model.loadAll(2000));
            case 12 -> callBetter();
            case 13, 14 -> callBest();
            default -> callLate();
        }
        for (int i = 0; i < model.items.size() && !isWrong; i++) {
            // Those that lie where they lay are looked at now and then, so that calls are left for other things.
            if (place(i) != seenPlace[i] || below(20) == 0) {
                due("where(" + i + ")", sheet.where(i), place(i));
                seenPlace[i] = place(i);
            }
        }
    }

    private int place(int i) {
        PlainModel.Item item = model.items.get(i);
        return item.hold < 0 ? -1 : 8 * item.hold + item.slot;
    }

    /** One call alone, so that the last one that an object is promised to answer is just reached. */
    private void callRule() {
        switch (below(8)) {
            case 0 -> callUnload();
            case 1 -> due("loadAll", sheet.loadAll(2000), model.loadAll(2000));
            case 2 -> callBetter();
            case 3 -> callBest();
            case 4 -> due("moment(0)", sheet.moment(0), model.dry()[1]);
            default -> callWhere();
        }
    }

    private void callWhere() {
        int i = below(model.items.size() + 1);
        due("where(" + i + ")", sheet.where(i), i < model.items.size() ? place(i) : -1);
    }

    private int arm() {
        return below(2) == 0 ? 100 * from(15, 25) : from(0, 5000);
    }

    private void callMore() {
        switch (below(8)) {
            case 0 -> callSlot();
            case 1 -> callWipe();
            case 2 -> callMoreOfTheRest();
            case 3, 4 -> tellApart();
            default -> addItem();
        }
    }

    private void callSlot() {
        if (!model.holds.isEmpty()) {
            int h = below(model.holds.size());
            PlainModel.Hold hold = model.holds.get(h);
            int slots = hold.slots.size();
            int arm = (slots == 0 ? 1000 : hold.slots.get(slots - 1)[0]) + from(0, 100);
            boolean isAbove = slots == 0 || arm > hold.slots.get(slots - 1)[0];
            int want = !isAbove || arm > 5000 ? -2 : slots == 8 ? -4 : slots;
            due("slot(" + h + ", " + arm + ", 200)", sheet.slot(h, arm, 200), want);
            if (want >= 0) {
                hold.slots.add(new int[] {arm, 200});
            }
        }
    }

    private void callWipe() {
        int phase = below(2);
        due("wipe(" + phase + ")", sheet.wipe(phase), model.phases.get(phase).size());
        model.phases.get(phase).clear();
        addPoints(phase);
    }

    private void callMoreOfTheRest() {
        setEmpty(from(1000, 3000), from(1500, 2500));
        if (model.holds.size() < 4) {
            addHold(from(0, 3));
        }
        if (model.rows.size() < 10) {
            addRow();
        }
        if (model.tanks.size() < 4) {
            addTank(600);
        }
    }

    private void callLoad() {
        // Mostly one of those that there are, now and then the next one, that there is not.
        int i = below(model.items.size() + (below(20) == 0 ? 1 : 0) + (model.items.isEmpty() ? 1 : 0));
        int h = below(model.holds.size() + (below(20) == 0 || model.holds.isEmpty() ? 1 : 0));
        int s = below(1 + (h < model.holds.size() ? model.holds.get(h).slots.size() : 0));
        boolean exists = i < model.items.size() && h < model.holds.size()
                && s < model.holds.get(h).slots.size();
        int want = -1;
        if (exists) {
            PlainModel.Item item = model.items.get(i);
            want = item.hold >= 0 ? -3 : model.fits(item, h, s);
        }
        String told = "(" + i + ", " + h + ", " + s + ")";
        due("fits" + told, sheet.fits(i, h, s), want);
        due("load" + told, sheet.load(i, h, s), want);
        if (want == 0) {
            model.put(model.items.get(i), h, s);
        }
    }

    private void callUnload() {
        int i = below(Math.max(1, model.items.size()));
        int want = -1;
        if (i < model.items.size()) {
            want = model.items.get(i).hold < 0 ? -3 : 0;
            model.put(model.items.get(i), -1, -1);
        }
        due("unload(" + i + ")", sheet.unload(i), want);
    }

    private void callBalance() {
        long[] dry = model.dry();
        long[] full = model.flying(0);
        due("weight(0)", sheet.weight(0), dry[0]);
        due("weight(1)", sheet.weight(1), full[0]);
        due("weight(2)", sheet.weight(2), full[0] - dry[0]);
        due("moment(0)", sheet.moment(0), dry[1]);
        due("moment(1)", sheet.moment(1), full[1]);
        due("moment(2)", sheet.moment(2), full[1] - dry[1]);
        int b = below(model.allFuel() + 1);
        long[] left = model.flying(b);
        due("burnt(" + b + ", 0)", sheet.burnt(b, 0), left[1]);
        due("burnt(" + b + ", 1)", sheet.burnt(b, 1), left[0]);
    }

    private void callLimits() {
        boolean hasDry = !model.phases.get(0).isEmpty();
        boolean hasFlying = !model.phases.get(1).isEmpty();
        due("within(0)", sheet.within(0), hasDry ? model.within(0, model.dry()) : -3);
        due("within(1)", sheet.within(1), hasFlying ? model.within(1, model.flying(0)) : -3);
        int fuel = below(3000);
        due("wrong(" + fuel + ")", sheet.wrong(fuel), hasFlying ? model.wrong(fuel) : -3);
        due("safe(" + fuel + ")", sheet.safe(fuel), hasDry && hasFlying ? model.safe(fuel) : -3);
    }

    private void callFuelOrSeat() {
        int n = below(4);
        if (n < model.tanks.size()) {
            int[] tank = model.tanks.get(n);
            int amount = below(tank[1] + 1);
            due("fuel(" + n + ", " + amount + ")", sheet.fuel(n, amount), tank[2]);
            tank[2] = amount;
        }
        if (n < model.rows.size()) {
            int[] row = model.rows.get(n);
            int taken = below(row[1] + 1);
            due("seat(" + n + ", " + taken + ")", sheet.seat(n, taken), row[2]);
            row[2] = taken;
        }
        int person = from(50, 150);
        due("person(" + person + ")", sheet.person(person), model.person);
        model.person = person;
    }

    private void callAbout() {
        for (int h = 0; h < model.holds.size(); h++) {
            for (int what = 0; what < 3; what++) {
                due("about(" + h + ", " + what + ")", sheet.about(h, what), model.about(h, what));
            }
        }
    }

    private void callStops() {
        for (int stop = 0; stop <= 4; stop++) {
            due("pushed(" + stop + ")", sheet.pushed(stop), model.pushed(stop));
        }
        if (below(2) == 0) {
            int stop = from(1, 4);
            due("arrive(" + stop + ")", sheet.arrive(stop), model.arrive(stop));
        }
    }

    private void callBetter() {
        int arm = arm();
        due("better(" + arm + ")", sheet.better(arm), model.better(arm));
    }

    private void callBest() {
        int arm = arm();
        due("best(" + arm + ")", sheet.best(arm), model.best(arm));
    }

    private void callLate() {
        int n = below(10);
        int arm = arm();
        due("late(" + n + ", " + arm + ")", sheet.late(n, arm), model.late(n, arm));
    }

    // ---- flights near their limits

    /** Limits drawn along the flight itself, a little wider: so the first wrong moment may be anywhere. */
    private void fly() {
        // Now and then as heavy as can be, for sums that would not fit into an int.
        boolean isHeavy = below(50) == 0;
        setEmpty(isHeavy ? 100000 : from(1000, 3000), isHeavy ? from(4000, 5000) : from(1500, 2500));
        for (int n = from(1, 4); n > 0; n--) {
            addTank(isHeavy ? 20000 : below(2) == 0 ? 400 : 3000);
        }
        int all = model.allFuel();
        int weight = model.emptyWeight - below(3) * 10;
        int points = from(1, 10);
        for (int p = 0; p < points; p++) {
            int b = Math.max(0, Math.min(all, model.emptyWeight + all - weight));
            long[] state = model.flying(b);
            int arm = (int) (state[1] / state[0]);
            int least = Math.max(0, Math.min(5000, arm - from(0, 60)));
            int greatest = Math.max(least, Math.min(5000, arm + 1 + from(0, 60)));
            addPoint(1, weight, least, greatest);
            int rest = Math.max(1, model.emptyWeight + all - weight);
            int step = isHeavy && p + 2 == points ? 1000000 - weight : rest;
            weight += p + 2 == points && below(4) > 0 ? step : from(1, 2 * all / points + 2);
        }
        for (int n = 0; n < 4; n++) {
            int fuel = below(all + 10);
            due("wrong(" + fuel + ")", sheet.wrong(fuel), model.wrong(fuel));
        }
        due("wrong of all", sheet.wrong(Integer.MAX_VALUE), model.wrong(Integer.MAX_VALUE));
    }
}
