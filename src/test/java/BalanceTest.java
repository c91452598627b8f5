/** Promises 20 to 25: balance. */
public final class BalanceTest {
    private static final Checks CHECKS = new Checks();

    private static void due(String call, long got, long want) {
        CHECKS.due(call, got, want);
    }

    public static void main(String[] args) {
        weightAndMoment();
        greatestMoment();
        burnt();
        withinByWeight();
        withinByArm();
        withinOnLines();
        safe();
        wrong();
        wrongInTheMiddle();
        wrongBehindATouch();
        wrongInAHollow();
        CHECKS.end("BalanceTest");
    }

    private static TrimSheet twoTanks() {
        TrimSheet t = new TrimSheet();
        t.empty(2000, 1000);
        t.tank(100, 50);
        t.tank(300, 20);
        t.fuel(0, 50);
        t.fuel(1, 20);
        return t;
    }

    private static void weightAndMoment() {
        TrimSheet t = twoTanks();
        t.hold(1000, 1000);
        t.slot(0, 400, 1000);
        t.item(30, 0, 1);
        t.item(40, 0, 1);
        t.load(0, 0, 0);
        t.row(500, 4);
        t.seat(0, 3);
        due("20 dry", t.weight(0), 2000 + 30 + 240);
        due("20 with all fuel", t.weight(1), 2000 + 30 + 240 + 70);
        due("20 fuel", t.weight(2), 70);
        due("20 what 3", t.weight(3), TrimSheet.NONE);
        due("20 what -1", t.weight(-1), TrimSheet.NONE);
        due("21 dry", t.moment(0), 2000000 + 12000 + 120000);
        due("21 with all fuel", t.moment(1), 2000000 + 12000 + 120000 + 11000);
        due("21 fuel", t.moment(2), 11000);
        due("21 what 3", t.moment(3), TrimSheet.NO);
        due("21 what -1", t.moment(-1), TrimSheet.NO);
    }

    private static void greatestMoment() {
        TrimSheet t = new TrimSheet();
        t.empty(100000, 5000);
        for (int n = 0; n < 4; n++) {
            t.tank(5000, 20000);
            t.fuel(n, 20000);
            t.hold(20000, 20000);
            for (int s = 0; s < 4; s++) {
                t.slot(n, 4997 + s, 20000);
                t.item(5000, 0, 1);
                t.load(4 * n + s, n, s);
            }
        }
        due("20 greatest", t.weight(1), 260000);
        due("21 greatest", t.moment(1), 1300000000L - 4L * 5000 * (3 + 2 + 1));
    }

    private static void burnt() {
        TrimSheet t = twoTanks();
        due("22 nothing", t.burnt(0, 0), 2011000);
        due("22 nothing, weight", t.burnt(0, 1), 2070);
        due("22 the last tank first", t.burnt(5, 0), 2011000 - 1500);
        due("22 the last tank is empty", t.burnt(20, 0), 2005000);
        due("22 then the one before", t.burnt(21, 0), 2005000 - 100);
        due("22 then the one before, weight", t.burnt(21, 1), 2049);
        due("22 all", t.burnt(70, 0), 2000000);
        due("22 all, weight", t.burnt(70, 1), 2000);
        due("22 more than there is", t.burnt(71, 0), TrimSheet.NO);
        due("22 below 0", t.burnt(-1, 1), TrimSheet.NO);
        due("22 what 2", t.burnt(0, 2), TrimSheet.NO);
        due("22 what -1", t.burnt(0, -1), TrimSheet.NO);
        due("22 changes nothing", t.weight(2), 70);
        due("22 no tank", new TrimSheet().burnt(0, 1), 1000);
        due("22 no tank, more", new TrimSheet().burnt(1, 1), TrimSheet.NO);
    }

    private static void withinByWeight() {
        TrimSheet t = new TrimSheet();
        t.empty(1500, 100);
        t.tank(100, 300);
        t.fuel(0, 300);
        due("23 no points", t.within(0), TrimSheet.STATE);
        due("23 phase -1", t.within(-1), TrimSheet.NONE);
        due("23 phase 2", t.within(2), TrimSheet.NONE);
        t.point(0, 1501, 0, 5000);
        due("23 too light", t.within(0), 1);
        due("23 the other phase", t.within(1), TrimSheet.STATE);
        t.wipe(0);
        t.point(0, 1499, 0, 5000);
        due("23 too heavy", t.within(0), 2);
        t.point(0, 1500, 0, 5000);
        due("23 just the last weight", t.within(0), 0);
        t.wipe(0);
        t.point(0, 1500, 0, 5000);
        due("23 a lone point", t.within(0), 0);
        t.point(1, 1799, 0, 5000);
        due("23 flying has all fuel", t.within(1), 2);
        t.point(1, 1801, 0, 5000);
        due("23 between", t.within(1), 0);
        t.fuel(0, 298);
        due("23 flying too light", t.within(1), 1);
    }

    private static void withinByArm() {
        TrimSheet t = new TrimSheet();
        t.empty(1500, 100);
        int[][] limits = {{100, 100, 0}, {101, 200, 3}, {0, 99, 4}, {0, 100, 0}, {100, 5000, 0}};
        for (int[] l : limits) {
            t.wipe(0);
            t.point(0, 1500, l[0], l[1]);
            due("23 a lone point " + l[0] + " .. " + l[1], t.within(0), l[2]);
            t.wipe(0);
            t.point(0, 1000, l[0], l[1]);
            t.point(0, 2000, l[0], l[1]);
            due("23 level lines " + l[0] + " .. " + l[1], t.within(0), l[2]);
        }
        t.wipe(0);
        t.point(0, 1600, 101, 200);
        due("23 weight is told before the arm", t.within(0), 1);
        // A measure of weight at an arm one above, and one below: the least that an arm can be off.
        TrimSheet hair = new TrimSheet();
        hair.empty(1000, 1000);
        hair.hold(1, 1);
        hair.slot(0, 999, 1);
        hair.slot(0, 1001, 1);
        hair.item(1, 0, 1);
        hair.point(0, 1001, 1000, 1000);
        hair.load(0, 0, 0);
        due("23 a hair in front", hair.within(0), 3);
        hair.unload(0);
        hair.load(0, 0, 1);
        due("23 a hair behind", hair.within(0), 4);
    }

    /** The dry arm is 1000 and a third, by one passenger of 50. */
    private static void withinOnLines() {
        TrimSheet t = new TrimSheet();
        t.empty(1450, 1000);
        t.person(50);
        t.row(1010, 1);
        t.seat(0, 1);
        t.point(0, 1000, 1000, 1000);
        t.point(0, 4000, 1002, 1002);
        due("23 just on the line", t.within(0), 0);
        t.wipe(0);
        t.point(0, 1000, 1000, 1000);
        t.point(0, 3999, 1002, 1002);
        due("23 a hair in front of the line", t.within(0), 3);
        t.wipe(0);
        t.point(0, 1000, 1000, 1000);
        t.point(0, 4001, 1002, 1002);
        due("23 a hair behind the line", t.within(0), 4);
        t.wipe(0);
        t.point(0, 1000, 0, 0);
        t.point(0, 1400, 1000, 1000);
        t.point(0, 1500, 1000, 1001);
        t.point(0, 9000, 0, 0);
        due("23 at a point between", t.within(0), 0);
    }

    private static void safe() {
        TrimSheet t = twoTanks();
        due("24 below 0 is told before no points", t.safe(-1), TrimSheet.BAD);
        due("24 no points", t.safe(0), TrimSheet.STATE);
        t.point(1, 2000, 0, 5000);
        t.point(1, 2070, 0, 5000);
        due("24 no points of dry", t.safe(0), TrimSheet.STATE);
        t.point(0, 2000, 1000, 1000);
        due("24 safe", t.safe(70), 1);
        due("24 more than there is", t.safe(Integer.MAX_VALUE), 1);
        t.wipe(1);
        due("24 no points of flying", t.safe(0), TrimSheet.STATE);
        t.point(1, 2001, 0, 5000);
        t.point(1, 2070, 0, 5000);
        due("24 too light at last", t.safe(70), 0);
        due("24 too light at last, of more", t.safe(71), 0);
        due("24 not so far", t.safe(69), 1);
        t.wipe(0);
        t.point(0, 2000, 999, 999);
        due("24 dry is not within", t.safe(0), 0);
    }

    private static void wrong() {
        TrimSheet t = twoTanks();
        due("25 below 0 is told before no points", t.wrong(-1), TrimSheet.BAD);
        due("25 no points", t.wrong(0), TrimSheet.STATE);
        t.point(0, 5, 0, 0);
        due("25 no points of flying", t.wrong(0), TrimSheet.STATE);
        t.point(1, 2050, 0, 5000);
        t.point(1, 2070, 0, 5000);
        due("25 dry does not matter", t.wrong(20), TrimSheet.NONE);
        due("25 too light at 21", t.wrong(21), 21);
        due("25 too light at 21 of more", t.wrong(Integer.MAX_VALUE), 21);
        t.wipe(1);
        t.point(1, 2000, 0, 5000);
        t.point(1, 2069, 0, 5000);
        due("25 too heavy at first", t.wrong(0), 0);
        TrimSheet dry = new TrimSheet();
        dry.point(1, 1000, 0, 0);
        due("25 no tank", dry.wrong(5), TrimSheet.NONE);
        dry.wipe(1);
        dry.point(1, 1000, 1, 1);
        due("25 no tank, wrong", dry.wrong(0), 0);
    }

    /** The tail tank burns first, then the nose tank: right before and after, wrong in between. */
    private static void wrongInTheMiddle() {
        TrimSheet t = new TrimSheet();
        t.empty(10000, 2000);
        t.tank(1000, 1000);
        t.tank(3000, 1000);
        t.fuel(0, 1000);
        t.fuel(1, 1000);
        t.point(0, 10000, 0, 5000);
        t.point(1, 1, 1950, 2050);
        t.point(1, 1000000, 1950, 2050);
        // 24,000,000 - 3000 b < 1950 (12,000 - b) from b = 600,000 / 1050 on: 572.
        due("25 in the middle", t.wrong(2000), 572);
        due("25 just before", t.wrong(571), TrimSheet.NONE);
        due("24 in the middle", t.safe(2000), 0);
        due("24 just before", t.safe(571), 1);
        t.wipe(1);
        t.point(1, 10500, 0, 5000);
        t.point(1, 11000, 1910, 1910);
        t.point(1, 12000, 2000, 2000);
        // A weight of 11,999 has its greatest arm at 1999.91, and its own at 1999.9166 ..
        due("25 behind a bent line", t.wrong(2000), 1);
    }

    /** The arm comes to be just the least one at 440: 23,960,000 - 2960 b = 1960 (12,000 - b). */
    private static void wrongBehindATouch() {
        TrimSheet t = new TrimSheet();
        t.empty(10000, 2000);
        t.tank(1000, 1000);
        t.tank(2960, 1000);
        t.fuel(0, 1000);
        t.fuel(1, 1000);
        t.point(1, 1, 1960, 2100);
        t.point(1, 1000000, 1960, 2100);
        due("25 just on the line", t.wrong(440), TrimSheet.NONE);
        due("25 behind a touch", t.wrong(2000), 441);
    }

    /**
     * One tank, one line: a thousand times the weight times the arm's room is (weight - 10,500) to the
     * second, so that the line is touched at 500; with a measure more in front it is that less 1000,
     * below 0 from 10,531 to 10,469.
     */
    private static void wrongInAHollow() {
        TrimSheet t = new TrimSheet();
        t.empty(10000, 2011);
        t.row(2005, 1);
        t.tank(2000, 950);
        t.point(1, 10000, 2011, 5000);
        t.point(1, 11000, 2010, 5000);
        t.hold(1, 1);
        t.slot(0, 1999, 1);
        dueInAHollow("least", t);
        // The same thing seen from the tail: all arms from 5000 down.
        TrimSheet tail = new TrimSheet();
        tail.empty(10000, 2989);
        tail.row(2995, 1);
        tail.tank(3000, 950);
        tail.point(1, 10000, 0, 2989);
        tail.point(1, 11000, 0, 2990);
        tail.hold(1, 1);
        tail.slot(0, 3001, 1);
        dueInAHollow("greatest", tail);
    }

    private static void dueInAHollow(String side, TrimSheet t) {
        t.person(50);
        t.seat(0, 1);
        t.fuel(0, 950);
        due("25 a touch in a hollow, " + side, t.wrong(950), TrimSheet.NONE);
        t.item(1, 0, 1);
        t.load(0, 0, 0);
        t.fuel(0, 949);
        due("25 before the hollow, " + side, t.wrong(468), TrimSheet.NONE);
        due("25 in a hollow, " + side, t.wrong(949), 469);
        due("25 full is within, " + side, t.within(1), 0);
        t.fuel(0, 400);
        due("25 behind the hollow, " + side, t.wrong(400), TrimSheet.NONE);
    }
}
