import java.math.BigInteger;

/** Promises 20 to 25 at their bounds: the lightest and the heaviest, lines' ends, a flight's first and last moment. */
public final class BalanceBoundsTest {
    private static final Checks CHECKS = new Checks();
    private static final int LEAST = Integer.MIN_VALUE, GREATEST = Integer.MAX_VALUE;

    private static void due(String call, long got, long want) {
        CHECKS.due(call, got, want);
    }

    public static void main(String[] args) {
        lightest();
        heaviest();
        whatThereIsNot();
        burntToTheLast();
        burntOverEmptyTanks();
        burntBeyond();
        withinTheWeights();
        withinTheArms();
        withinALonePoint();
        withinAtEachOfTenPoints();
        withinAlongLines();
        withinTheWidestLines();
        withinWithoutPoints();
        flightBurnsAllThatThereIs();
        flightFromTheLastToTheFirstPoint();
        flightWrongAtEachMoment();
        flightWrongAtOneMoment();
        flightWrongWhereTanksTurn();
        flightWithoutFuel();
        safeNeedsBoth();
        flightRefusals();
        CHECKS.end("BalanceBoundsTest");
    }

    private static void changesNothing(Story story, String why, long want, String name, int... numbers) {
        story.changesNothing(CHECKS, why, want, name, numbers);
    }

    // ---- 20, 21: "WEIGHT of the DRY state (what 0), with all fuel (1), fuel alone (2)", "MOMENT likewise"

    private static void dueSums(String call, TrimSheet t, int dry, int fuel, long dryMoment, long fuelMoment) {
        due("20 dry, " + call, t.weight(0), dry);
        due("20 with all fuel, " + call, t.weight(1), dry + fuel);
        due("20 fuel alone, " + call, t.weight(2), fuel);
        due("21 dry, " + call, t.moment(0), dryMoment);
        due("21 with all fuel, " + call, t.moment(1), dryMoment + fuelMoment);
        due("21 fuel alone, " + call, t.moment(2), fuelMoment);
    }

    private static void lightest() {
        TrimSheet t = new TrimSheet();
        dueSums("new", t, 1000, 0, 0, 0);
        t.tank(5000, 20000);
        t.row(5000, 8);
        t.hold(20000, 20000);
        t.slot(0, 5000, 20000);
        t.item(5000, 0, 1);
        dueSums("with nothing in it", t, 1000, 0, 0, 0);
        t.fuel(0, 1);
        dueSums("one measure", t, 1000, 1, 0, 5000);
    }

    private static void heaviest() {
        TrimSheet t = new TrimSheet();
        t.empty(100000, 5000);
        long cargo = 0;
        for (int n = 0; n < 4; n++) {
            t.tank(5000, 20000);
            t.fuel(n, 20000);
            t.hold(20000, 20000);
            for (int s = 0; s < 8; s++) {
                t.slot(n, 4993 + s, 20000);
                due("20 loaded", t.load(t.item(2500, 0, 1), n, s), 0);
                cargo += 2500L * (4993 + s);
            }
        }
        t.person(150);
        for (int r = 0; r < 10; r++) {
            t.row(5000, 8);
            t.seat(r, 8);
        }
        dueSums("heaviest", t, 192000, 80000, 500000000L + cargo + 60000000L, 400000000L);
        due("22 heaviest", t.burnt(0, 0), 960000000L + cargo);
        due("22 heaviest, all burnt", t.burnt(80000, 0), 560000000L + cargo);
        t.point(1, 1, 0, 5000);
        t.point(1, 1000000, 4999, 5000);
        due("23 heaviest", t.within(1), 0);
        due("25 heaviest", t.wrong(GREATEST), TrimSheet.NONE);
    }

    private static void whatThereIsNot() {
        Story told = new Story().then("tank", 100, 50).then("fuel", 0, 50).then("point", 0, 1000, 0, 0);
        for (int none : new int[] {LEAST, -1, 3, GREATEST}) {
            changesNothing(told, "20", TrimSheet.NONE, "weight", none);
            changesNothing(told, "21", TrimSheet.NO, "moment", none);
        }
        for (int none : new int[] {LEAST, -1, 2, GREATEST}) {
            changesNothing(told, "22", TrimSheet.NO, "burnt", 0, none);
            changesNothing(told, "22 both", TrimSheet.NO, "burnt", -1, none);
            changesNothing(told, "23", TrimSheet.NONE, "within", none);
        }
    }

    // ---- 22: "of the state with all fuel but b measures, BURNT. NO: b is below 0, or more than there is"

    /** Tanks are "BURNT from the last one that was told down, each till it is empty". */
    private static void burntToTheLast() {
        int[] arms = {10, 3000, 200, 5000};
        int[] amounts = {3, 2, 4, 1};
        TrimSheet t = new TrimSheet();
        long moment = 0;
        for (int n = 0; n < 4; n++) {
            t.tank(arms[n], 10);
            t.fuel(n, amounts[n]);
            moment += (long) arms[n] * amounts[n];
        }
        int burnt = 0;
        due("22 nothing burnt", t.burnt(0, 0), moment);
        for (int n = 3; n >= 0; n--) {
            for (int measure = 0; measure < amounts[n]; measure++) {
                burnt++;
                moment -= arms[n];
                due("22 burnt " + burnt, t.burnt(burnt, 0), moment);
                due("22 burnt " + burnt + ", weight", t.burnt(burnt, 1), 1010 - burnt);
            }
        }
        due("22 all burnt", moment, 0);
        due("22 one more than there is", t.burnt(11, 0), TrimSheet.NO);
    }

    private static void burntOverEmptyTanks() {
        TrimSheet t = new TrimSheet();
        t.tank(7, 0);
        t.tank(11, 9);
        t.tank(13, 9);
        t.tank(17, 9);
        t.fuel(1, 2);
        due("22 the only one with fuel", t.burnt(0, 0), 22);
        due("22 the only one with fuel", t.burnt(1, 0), 11);
        due("22 the only one with fuel", t.burnt(2, 0), 0);
        t.fuel(3, 1);
        due("22 over an empty one", t.burnt(1, 0), 22);
        due("22 over an empty one", t.burnt(2, 0), 11);
        t.fuel(1, 0);
        t.fuel(3, 0);
        due("22 all are empty", t.burnt(0, 0), 0);
        due("22 all are empty", t.burnt(1, 0), TrimSheet.NO);
    }

    private static void burntBeyond() {
        Story told = new Story().then("tank", 7, 20000).then("tank", 9, 20000);
        told.then("fuel", 0, 20000).then("fuel", 1, 20000);
        due("22 all", told.told().burnt(40000, 1), 1000);
        due("22 one less", told.told().burnt(39999, 1), 1001);
        for (int what = 0; what <= 1; what++) {
            for (int b : new int[] {LEAST, -1, 40001, GREATEST}) {
                changesNothing(told, "22 measures", TrimSheet.NO, "burnt", b, what);
            }
            changesNothing(new Story(), "22 without fuel", TrimSheet.NO, "burnt", 1, what);
            due("22 without fuel, none", new TrimSheet().burnt(0, what), 1000L * what);
        }
    }

    // ---- 23: "the WEIGHT is from the first to the last POINT's, and the ARM from the least to the greatest there"

    private static void withinTheWeights() {
        for (int phase = 0; phase <= 1; phase++) {
            TrimSheet t = new TrimSheet();
            t.point(phase, 2000, 0, 5000);
            t.point(phase, 3000, 0, 5000);
            int[][] weights = {{1000, 1}, {1999, 1}, {2000, 0}, {2001, 0}, {2999, 0}, {3000, 0}, {3001, 2},
                {100000, 2}};
            for (int[] w : weights) {
                t.empty(w[0], 2500);
                due("23 phase " + phase + " weight " + w[0], t.within(phase), w[1]);
            }
        }
        TrimSheet fuelled = new TrimSheet();
        fuelled.tank(0, 10);
        fuelled.point(0, 1000, 0, 0);
        fuelled.point(1, 1010, 0, 0);
        for (int amount = 0; amount <= 10; amount++) {
            fuelled.fuel(0, amount);
            due("23 dry is without fuel", fuelled.within(0), 0);
            due("23 flying is with all fuel", fuelled.within(1), amount == 10 ? 0 : 1);
        }
    }

    private static void withinTheArms() {
        TrimSheet t = new TrimSheet();
        t.point(0, 1000, 1000, 2000);
        t.point(0, 3000, 1000, 2000);
        int[][] arms = {{0, 3}, {999, 3}, {1000, 0}, {1001, 0}, {1999, 0}, {2000, 0}, {2001, 4}, {5000, 4}};
        for (int weight : new int[] {1000, 1001, 2000, 2999, 3000}) {
            for (int[] a : arms) {
                t.empty(weight, a[0]);
                due("23 weight " + weight + " arm " + a[0], t.within(0), a[1]);
            }
        }
        t.empty(3001, 0);
        due("23 too heavy is told before too far in front", t.within(0), 2);
        t.wipe(0);
        t.point(0, 3002, 1, 1);
        due("23 too light is told before too far in front", t.within(0), 1);
        t.wipe(0);
        t.point(0, 3001, 0, 0);
        due("23 arm 0 from 0 to 0", t.within(0), 0);
        t.empty(3001, 5000);
        due("23 arm 5000 from 0 to 0", t.within(0), 4);
        t.wipe(0);
        t.point(0, 3001, 5000, 5000);
        due("23 arm 5000 from 5000 to 5000", t.within(0), 0);
    }

    /** "With at least 1 POINT": then there is just one weight, and no line. */
    private static void withinALonePoint() {
        TrimSheet t = new TrimSheet();
        t.point(0, 2000, 1500, 1600);
        int[][] states = {{1999, 1550, 1}, {2001, 1550, 2}, {2000, 1499, 3}, {2000, 1500, 0}, {2000, 1600, 0},
            {2000, 1601, 4}};
        for (int[] s : states) {
            t.empty(s[0], s[1]);
            due(Calls.told("23 a lone point", s[0], s[1]), t.within(0), s[2]);
        }
    }

    private static void withinAtEachOfTenPoints() {
        TrimSheet t = new TrimSheet();
        for (int p = 0; p < 10; p++) {
            int least = p % 2 == 0 ? 1000 + p : 4000 + p;
            t.point(0, 2000 + 2 * p, least, least + 10);
        }
        for (int p = 0; p < 10; p++) {
            int least = p % 2 == 0 ? 1000 + p : 4000 + p;
            int[][] arms = {{least - 1, 3}, {least, 0}, {least + 10, 0}, {least + 11, 4}};
            for (int[] a : arms) {
                t.empty(2000 + 2 * p, a[0]);
                due("23 at point " + p + " arm " + a[0], t.within(0), a[1]);
            }
        }
        for (int p = 0; p < 9; p++) {
            // Half way between two points: the sums of their arms are odd, so no whole arm is on a line.
            int twiceLeast = 5000 + 2 * p + 1;
            int[][] arms = {{twiceLeast / 2, 3}, {twiceLeast / 2 + 1, 0}, {twiceLeast / 2 + 10, 0},
                {twiceLeast / 2 + 11, 4}};
            for (int[] a : arms) {
                t.empty(2001 + 2 * p, a[0]);
                due("23 behind point " + p + " arm " + a[0], t.within(0), a[1]);
            }
        }
    }

    private static int want(long weight, long moment, int[] low, int[] high) {
        BigInteger span = BigInteger.valueOf(high[0] - low[0]);
        BigInteger scaled = BigInteger.valueOf(moment).multiply(span);
        int[] sides = new int[3];
        for (int side = 1; side <= 2; side++) {
            BigInteger arm = BigInteger.valueOf(low[side]).multiply(BigInteger.valueOf(high[0] - weight))
                    .add(BigInteger.valueOf(high[side]).multiply(BigInteger.valueOf(weight - low[0])));
            sides[side] = scaled.compareTo(arm.multiply(BigInteger.valueOf(weight)));
        }
        return sides[1] < 0 ? 3 : sides[2] > 0 ? 4 : 0;
    }

    /** One measure of cargo gives the arm its smallest steps, on both sides of lines that rise and fall. */
    private static void withinAlongLines() {
        int[][][] lines = {{{1000, 2000, 2001}, {1100, 2003, 2004}}, {{1000, 2003, 2004}, {1100, 2000, 2001}},
            {{1000, 2000, 2004}, {1100, 2001, 2001}}, {{1000, 2002, 2002}, {1100, 2002, 2002}}};
        for (int[][] line : lines) {
            for (int arm = 2000; arm < 2005; arm++) {
                alongALine(line, arm);
            }
        }
    }

    private static void alongALine(int[][] line, int arm) {
        TrimSheet t = between(line);
        t.hold(1, 20000);
        for (int s = 0; s < 8; s++) {
            t.slot(0, 1000 + 300 * s, 1);
        }
        t.item(1, 0, 1);
        for (int weight = 1000; weight < 1099; weight++) {
            int slot = (weight + arm) * 5 % 8;
            t.empty(weight, arm);
            t.load(0, 0, slot);
            long moment = (long) weight * arm + 1000 + 300 * slot;
            due(Calls.told("23 along a line", weight, arm, slot), t.within(0),
                    want(weight + 1, moment, line[0], line[1]));
            t.unload(0);
        }
    }

    private static TrimSheet between(int[][] points) {
        TrimSheet t = new TrimSheet();
        for (int[] p : points) {
            t.point(0, p[0], p[1], p[2]);
        }
        return t;
    }

    /** The longest and steepest lines that there can be, and the heaviest states: the greatest products. */
    private static void withinTheWidestLines() {
        int[][][] lines = {{{1, 0, 0}, {1000000, 5000, 5000}}, {{1, 5000, 5000}, {1000000, 0, 0}},
            {{1, 0, 5000}, {1000000, 0, 5000}}, {{1, 0, 0}, {1000000, 0, 5000}}, {{1, 0, 5000}, {1000000, 5000, 5000}}};
        for (int[][] line : lines) {
            for (int weight : new int[] {1000, 1001, 50000, 99999, 100000}) {
                for (int arm = 0; arm <= 5000; arm += arm < 600 || arm > 4400 ? 1 : 100) {
                    TrimSheet t = between(line);
                    t.empty(weight, arm);
                    due(Calls.told("23 widest", weight, arm), t.within(0),
                            want(weight, (long) weight * arm, line[0], line[1]));
                }
            }
        }
    }

    private static void withinWithoutPoints() {
        Story told = new Story().then("point", 1, 1000, 0, 0);
        changesNothing(told, "23 dry has no points", TrimSheet.STATE, "within", 0);
        due("23 flying has one", told.told().within(1), 0);
        told.then("wipe", 1).then("point", 0, 1000, 0, 0);
        changesNothing(told, "23 flying has no points", TrimSheet.STATE, "within", 1);
        due("23 dry has one", told.told().within(0), 0);
    }

    // ---- 24, 25: the FLIGHT "burns so much fuel as is told (all that there is, if that is less)"

    /** 30 measures in two tanks; the weight 1000 of the empty aircraft is reached when all is burnt. */
    private static Story thirty() {
        Story told = new Story().then("tank", 0, 10).then("tank", 0, 20).then("fuel", 0, 10).then("fuel", 1, 20);
        return told.then("point", 0, 1000, 0, 0);
    }

    private static void flightBurnsAllThatThereIs() {
        TrimSheet right = thirty().then("point", 1, 1000, 0, 0).then("point", 1, 1030, 0, 0).told();
        TrimSheet wrong = thirty().then("point", 1, 1001, 0, 0).then("point", 1, 1030, 0, 0).told();
        for (int fuel : new int[] {0, 1, 19, 20, 21, 29, 30, 31, 1000, GREATEST - 1, GREATEST}) {
            due("24 right, burning " + fuel, right.safe(fuel), 1);
            due("25 right, burning " + fuel, right.wrong(fuel), TrimSheet.NONE);
            due("24 wrong at the last, burning " + fuel, wrong.safe(fuel), fuel < 30 ? 1 : 0);
            due("25 wrong at the last, burning " + fuel, wrong.wrong(fuel), fuel < 30 ? TrimSheet.NONE : 30);
        }
        due("25 nothing is burnt by it", right.weight(2), 30);
    }

    /** Weights "from the first to the last POINT's": both ends are within. */
    private static void flightFromTheLastToTheFirstPoint() {
        for (int first = 999; first <= 1001; first++) {
            for (int last = 1029; last <= 1031; last++) {
                Story told = thirty().then("point", 1, first, 0, 0).then("point", 1, 1015, 0, 0);
                TrimSheet t = told.then("point", 1, last, 0, 0).told();
                int want = last < 1030 ? 0 : first > 1000 ? 30 : TrimSheet.NONE;
                due("25 from " + last + " to " + first, t.wrong(30), want);
                due("24 from " + last + " to " + first, t.safe(30), want == TrimSheet.NONE ? 1 : 0);
            }
        }
    }

    /** A line's end anywhere along the flight: the first wrong moment is just the one behind it. */
    private static void flightWrongAtEachMoment() {
        for (int first = 1001; first <= 1030; first++) {
            TrimSheet t = thirty().then("point", 1, first, 0, 0).then("point", 1, 1031, 0, 0).told();
            int moment = 1030 - first + 1;
            due("25 wrong at " + moment, t.wrong(30), moment);
            due("25 burning just so much", t.wrong(moment), moment);
            due("25 burning one less", t.wrong(moment - 1), TrimSheet.NONE);
            due("24 burning just so much", t.safe(moment), 0);
            due("24 burning one less", t.safe(moment - 1), 1);
        }
        for (int kink = 1001; kink <= 1030; kink++) {
            // All is at 100: just the greatest arm down to the kink's weight, and one too far below it.
            Story told = new Story().then("empty", 1000, 100).then("tank", 100, 30).then("fuel", 0, 30);
            told.then("point", 1, 900, 0, 99).then("point", 1, kink - 1, 0, 99).then("point", 1, kink, 0, 100);
            TrimSheet t = told.then("point", 1, 2000, 0, 100).told();
            due("25 an arm wrong behind " + kink, t.wrong(GREATEST), 1030 - kink + 1);
            due("25 an arm not yet wrong at " + kink, t.wrong(1030 - kink), TrimSheet.NONE);
        }
    }

    /**
     * A limit that bends towards the flight: it is short of it by (weight - c) to the second, less
     * 'depth', times 1000. So it is touched at c, or crossed there and come back from at once.
     */
    private static TrimSheet bending(boolean isAtLeast, int c, int depth) {
        int tankArm = 5901 - 2 * c;
        int dryMoment = c * c + 1001 * tankArm - depth;
        int emptyArm = (dryMoment - 2500) / 1000;
        int itemArm = dryMoment - 1000 * emptyArm;
        TrimSheet t = new TrimSheet();
        // The same thing seen from the tail: all arms from 5000 down, least and greatest changed.
        t.empty(1000, isAtLeast ? emptyArm : 5000 - emptyArm);
        t.hold(1, 1);
        t.slot(0, isAtLeast ? itemArm : 5000 - itemArm, 1);
        t.item(1, 0, 1);
        t.load(0, 0, 0);
        t.tank(isAtLeast ? tankArm : 5000 - tankArm, 500);
        t.fuel(0, 500);
        t.point(1, 1001, isAtLeast ? 4900 : 0, isAtLeast ? 5000 : 100);
        t.point(1, 2001, isAtLeast ? 3900 : 0, isAtLeast ? 5000 : 1100);
        return t;
    }

    private static void flightWrongAtOneMoment() {
        for (int c = 1150; c <= 1250; c++) {
            for (int depth = 0; depth <= 4; depth++) {
                for (int side = 0; side <= 1; side++) {
                    TrimSheet t = bending(side == 0, c, depth);
                    String told = Calls.told("25 bending", c, depth, side);
                    int lowest = 1501 - c;
                    int first = depth == 0 ? TrimSheet.NONE : depth == 1 ? lowest : lowest - 1;
                    due(told, t.wrong(GREATEST), first);
                    due(told + " just so far", t.wrong(lowest), first);
                    due(told + " not so far", t.wrong(lowest - 2), TrimSheet.NONE);
                }
            }
        }
    }

    /** The tail tank, then the nose tank: the arm goes to the front till just the turn, and back. */
    private static void flightWrongWhereTanksTurn() {
        for (int least = 1800; least <= 2001; least++) {
            TrimSheet t = turning(least);
            int want = firstInFront(least);
            due("25 at the turn, least " + least, t.wrong(200), want);
            due("25 at the turn, least " + least + ", of more", t.wrong(GREATEST), want);
        }
        due("25 just at the turn", turning(1819).wrong(200), 100);
        due("25 just before the turn", turning(1819).wrong(99), TrimSheet.NONE);
    }

    private static TrimSheet turning(int least) {
        TrimSheet t = new TrimSheet();
        t.empty(1000, 2000);
        t.tank(0, 100);
        t.tank(3000, 100);
        t.fuel(0, 100);
        t.fuel(1, 100);
        t.point(1, 1, least, 5000);
        t.point(1, 1000000, least, 5000);
        return t;
    }

    private static int firstInFront(int least) {
        for (int b = 0; b <= 200; b++) {
            int moment = 1000 * 2000 + 3000 * Math.max(0, 100 - b);
            if (moment < least * (1200 - b)) {
                return b;
            }
        }
        return TrimSheet.NONE;
    }

    private static void flightWithoutFuel() {
        Story told = new Story().then("point", 0, 1000, 0, 0).then("point", 1, 1000, 0, 0);
        for (int fuel : new int[] {0, 1, GREATEST}) {
            due("24 no tank, burning " + fuel, told.told().safe(fuel), 1);
            due("25 no tank, burning " + fuel, told.told().wrong(fuel), TrimSheet.NONE);
        }
        told.then("tank", 5000, 0).then("tank", 5000, 20000);
        for (int fuel : new int[] {0, 1, GREATEST}) {
            due("24 empty tanks, burning " + fuel, told.told().safe(fuel), 1);
            due("25 empty tanks, burning " + fuel, told.told().wrong(fuel), TrimSheet.NONE);
        }
        told.then("empty", 1000, 1);
        due("24 the only moment is wrong", told.told().safe(0), 0);
        due("25 the only moment is wrong", told.told().wrong(GREATEST), 0);
    }

    /** "the DRY state is WITHIN DRY's LIMITS, and at each moment .. WITHIN FLYING's" */
    private static void safeNeedsBoth() {
        for (int dry = 999; dry <= 1001; dry++) {
            for (int flying = 1029; flying <= 1030; flying++) {
                Story told = new Story().then("tank", 0, 30).then("fuel", 0, 30);
                told.then("point", 0, dry, 0, 0).then("point", 1, 1000, 0, 0).then("point", 1, flying, 0, 0);
                due("24 dry " + dry + ", flying " + flying, told.told().safe(0), dry == 1000 && flying == 1030 ? 1 : 0);
                due("25 dry " + dry + ", flying " + flying, told.told().wrong(0), flying == 1030 ? TrimSheet.NONE : 0);
            }
        }
    }

    private static void flightRefusals() {
        Story none = new Story().then("tank", 0, 30).then("fuel", 0, 30);
        Story dryOnly = new Story().then("point", 0, 1000, 0, 0);
        Story flyingOnly = new Story().then("point", 1, 1000, 0, 0);
        Story both = new Story().then("point", 0, 1000, 0, 0).then("point", 1, 1000, 0, 0);
        for (Story told : new Story[] {none, dryOnly, flyingOnly, both}) {
            for (int fuel : new int[] {LEAST, LEAST + 1, -1}) {
                changesNothing(told, "24 bad is told first", TrimSheet.BAD, "safe", fuel);
                changesNothing(told, "25 bad is told first", TrimSheet.BAD, "wrong", fuel);
            }
        }
        for (int fuel : new int[] {0, 1, GREATEST}) {
            changesNothing(none, "24 no points", TrimSheet.STATE, "safe", fuel);
            changesNothing(dryOnly, "24 no points of flying", TrimSheet.STATE, "safe", fuel);
            changesNothing(flyingOnly, "24 no points of dry", TrimSheet.STATE, "safe", fuel);
            changesNothing(none, "25 no points", TrimSheet.STATE, "wrong", fuel);
            changesNothing(dryOnly, "25 no points of flying", TrimSheet.STATE, "wrong", fuel);
            changesNothing(flyingOnly, "25 dry's points are not asked for", TrimSheet.NONE, "wrong", fuel);
            changesNothing(both, "25 there is none", TrimSheet.NONE, "wrong", fuel);
            changesNothing(both, "24 safe changes nothing", 1, "safe", fuel);
        }
    }
}
