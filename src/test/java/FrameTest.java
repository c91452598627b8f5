/** Promises 1 to 13: a new object, and what an aircraft is made of. */
public final class FrameTest {
    private static final Checks CHECKS = new Checks();

    private static void due(String call, long got, long want) {
        CHECKS.due(call, got, want);
    }

    public static void main(String[] args) {
        newObject();
        empty();
        hold();
        slot();
        apart();
        item();
        row();
        tank();
        person();
        seat();
        fuel();
        point();
        wipe();
        CHECKS.end("FrameTest");
    }

    private static void newObject() {
        TrimSheet t = new TrimSheet();
        due("1 weight(0)", t.weight(0), 1000);
        due("1 moment(0)", t.moment(0), 0);
        due("1 weight(1)", t.weight(1), 1000);
        due("1 weight(2)", t.weight(2), 0);
        int[] counts = {0, 0, 0, 0, 0, 0, 0, 80};
        for (int what = 0; what < counts.length; what++) {
            due("1 count(" + what + ")", t.count(what), counts[what]);
        }
        due("1 within(0)", t.within(0), TrimSheet.STATE);
        due("1 within(1)", t.within(1), TrimSheet.STATE);
        for (int x = 0; x < 8; x++) {
            for (int y = 0; y < 8; y++) {
                due("1 apart(" + x + ", " + y + ", 0)", t.apart(x, y, 0), 0);
            }
        }
        due("1 pushed(0)", t.pushed(0), 0);
        due("1 NO", TrimSheet.NO, Long.MIN_VALUE);
    }

    private static void empty() {
        TrimSheet t = new TrimSheet();
        due("2 empty(1000, 0)", t.empty(1000, 0), 0);
        due("2 empty(100000, 5000)", t.empty(100000, 5000), 0);
        due("2 weight", t.weight(0), 100000);
        due("2 moment", t.moment(0), 500000000L);
        int[][] bad = {{999, 0}, {100001, 0}, {1000, -1}, {1000, 5001}, {-1, -1},
            {Integer.MIN_VALUE, 0}, {Integer.MAX_VALUE, Integer.MAX_VALUE}};
        for (int[] b : bad) {
            due("2 empty(" + b[0] + ", " + b[1] + ")", t.empty(b[0], b[1]), TrimSheet.BAD);
        }
        due("2 weight is kept", t.weight(0), 100000);
        due("2 moment is kept", t.moment(0), 500000000L);
    }

    private static void hold() {
        TrimSheet t = new TrimSheet();
        int[][] bad = {{-1, 0}, {20001, 0}, {0, -1}, {0, 20001}};
        for (int[] b : bad) {
            due("3 hold(" + b[0] + ", " + b[1] + ")", t.hold(b[0], b[1]), TrimSheet.BAD);
        }
        due("3 count", t.count(0), 0);
        due("3 hold(0, 0)", t.hold(0, 0), 0);
        due("3 hold(20000, 20000)", t.hold(20000, 20000), 1);
        due("3 hold 2", t.hold(1, 2), 2);
        due("3 hold 3", t.hold(1, 2), 3);
        due("3 full", t.hold(1, 2), TrimSheet.FULL);
        due("3 bad is told before full", t.hold(1, 20001), TrimSheet.BAD);
        due("3 count", t.count(0), 4);
        due("3 without slots", t.count(1), 0);
        due("3 without slots", t.in(3, 0), TrimSheet.NONE);
    }

    private static void slot() {
        TrimSheet t = new TrimSheet();
        due("4 no hold", t.slot(0, 10, 10), TrimSheet.NONE);
        t.hold(100, 100);
        t.hold(100, 100);
        due("4 no hold -1", t.slot(-1, 10, 10), TrimSheet.NONE);
        due("4 none is told before bad", t.slot(2, -1, -1), TrimSheet.NONE);
        due("4 arm -1", t.slot(0, -1, 10), TrimSheet.BAD);
        due("4 arm 5001", t.slot(0, 5001, 10), TrimSheet.BAD);
        due("4 most -1", t.slot(0, 10, -1), TrimSheet.BAD);
        due("4 most 20001", t.slot(0, 10, 20001), TrimSheet.BAD);
        due("4 arm 0", t.slot(0, 0, 0), 0);
        due("4 alike arm", t.slot(0, 0, 10), TrimSheet.BAD);
        due("4 arm above", t.slot(0, 1, 20000), 1);
        due("4 arm below", t.slot(0, 0, 10), TrimSheet.BAD);
        due("4 other hold", t.slot(1, 0, 10), 0);
        for (int s = 2; s < 8; s++) {
            due("4 slot " + s, t.slot(0, 100 * s, 10), s);
        }
        due("4 full", t.slot(0, 5000, 10), TrimSheet.FULL);
        due("4 bad is told before full", t.slot(0, 700, 10), TrimSheet.BAD);
        due("4 count", t.count(1), 9);
        due("4 arm 5000", t.slot(1, 5000, 10), 1);
    }

    private static void apart() {
        TrimSheet t = new TrimSheet();
        due("5 apart(0, 7, 8)", t.apart(0, 7, 8), 0);
        due("5 both ways", t.apart(7, 0, 3), 8);
        due("5 what it was", t.apart(0, 7, 0), 3);
        due("5 any way", t.apart(0, 7, 1), 0);
        due("5 alike", t.apart(3, 3, 2), 0);
        due("5 alike what it was", t.apart(3, 3, 5), 2);
        due("5 kind -1", t.apart(-1, 0, 1), TrimSheet.NONE);
        due("5 kind 8", t.apart(0, 8, 1), TrimSheet.NONE);
        due("5 none is told before bad", t.apart(8, 0, 9), TrimSheet.NONE);
        due("5 d -1", t.apart(0, 7, -1), TrimSheet.BAD);
        due("5 d 9", t.apart(0, 7, 9), TrimSheet.BAD);
        due("5 kept", t.apart(0, 7, 1), 1);
        due("5 others untouched", t.apart(0, 6, 1), 0);
    }

    private static void item() {
        TrimSheet t = new TrimSheet();
        due("6 weight 0", t.item(0, 0, 1), TrimSheet.BAD);
        due("6 weight 5001", t.item(5001, 0, 1), TrimSheet.BAD);
        due("6 bad is told before none", t.item(0, 8, 9), TrimSheet.BAD);
        due("6 kind -1", t.item(1, -1, 1), TrimSheet.NONE);
        due("6 kind 8", t.item(1, 8, 1), TrimSheet.NONE);
        due("6 stop 0", t.item(1, 0, 0), TrimSheet.NONE);
        due("6 stop 5", t.item(1, 0, 5), TrimSheet.NONE);
        due("6 count", t.count(2), 0);
        due("6 item(1, 0, 1)", t.item(1, 0, 1), 0);
        due("6 item(5000, 7, 4)", t.item(5000, 7, 4), 1);
        due("6 not loaded", t.where(1), TrimSheet.NONE);
        for (int i = 2; i < 40; i++) {
            due("6 item " + i, t.item(10, 1, 1), i);
        }
        due("6 full", t.item(10, 1, 1), TrimSheet.FULL);
        due("6 bad is told before full", t.item(0, 1, 1), TrimSheet.BAD);
        due("6 none is told before full", t.item(1, 9, 1), TrimSheet.NONE);
        due("6 count", t.count(2), 40);
        due("6 none loaded", t.count(3), 0);
    }

    private static void row() {
        TrimSheet t = new TrimSheet();
        int[][] bad = {{-1, 1}, {5001, 1}, {0, 0}, {0, 9}};
        for (int[] b : bad) {
            due("7 row(" + b[0] + ", " + b[1] + ")", t.row(b[0], b[1]), TrimSheet.BAD);
        }
        due("7 row(0, 1)", t.row(0, 1), 0);
        due("7 row(5000, 8)", t.row(5000, 8), 1);
        for (int r = 2; r < 10; r++) {
            due("7 row " + r, t.row(0, 2), r);
        }
        due("7 full", t.row(0, 2), TrimSheet.FULL);
        due("7 bad is told before full", t.row(0, 9), TrimSheet.BAD);
        due("7 count", t.count(4), 10);
        due("7 no seat taken", t.count(5), 0);
    }

    private static void tank() {
        TrimSheet t = new TrimSheet();
        int[][] bad = {{-1, 1}, {5001, 1}, {0, -1}, {0, 20001}};
        for (int[] b : bad) {
            due("8 tank(" + b[0] + ", " + b[1] + ")", t.tank(b[0], b[1]), TrimSheet.BAD);
        }
        due("8 tank(0, 0)", t.tank(0, 0), 0);
        due("8 tank(5000, 20000)", t.tank(5000, 20000), 1);
        due("8 tank 2", t.tank(1, 1), 2);
        due("8 tank 3", t.tank(1, 1), 3);
        due("8 full", t.tank(1, 1), TrimSheet.FULL);
        due("8 bad is told before full", t.tank(-1, 1), TrimSheet.BAD);
        due("8 count", t.count(6), 4);
        due("8 empty", t.weight(2), 0);
    }

    private static void person() {
        TrimSheet t = new TrimSheet();
        t.row(100, 3);
        t.seat(0, 2);
        due("9 person(50)", t.person(50), 80);
        due("9 weight", t.weight(0), 1100);
        due("9 person(150)", t.person(150), 50);
        due("9 person(49)", t.person(49), TrimSheet.BAD);
        due("9 person(151)", t.person(151), TrimSheet.BAD);
        due("9 kept", t.count(7), 150);
        due("9 weight", t.weight(0), 1300);
        due("9 moment", t.moment(0), 30000);
    }

    private static void seat() {
        TrimSheet t = new TrimSheet();
        due("10 no row", t.seat(0, 0), TrimSheet.NONE);
        t.row(100, 3);
        t.row(200, 5);
        due("10 seat(0, 3)", t.seat(0, 3), 0);
        due("10 seat(1, 5)", t.seat(1, 5), 0);
        due("10 seat(0, 1)", t.seat(0, 1), 3);
        due("10 seat(0, 4)", t.seat(0, 4), TrimSheet.BAD);
        due("10 seat(0, -1)", t.seat(0, -1), TrimSheet.BAD);
        due("10 none is told before bad", t.seat(2, -1), TrimSheet.NONE);
        due("10 row -1", t.seat(-1, 0), TrimSheet.NONE);
        due("10 count", t.count(5), 6);
        due("10 weight", t.weight(0), 1480);
        due("10 moment", t.moment(0), 80 * 100 + 400 * 200);
        due("10 seat(0, 0)", t.seat(0, 0), 1);
    }

    private static void fuel() {
        TrimSheet t = new TrimSheet();
        due("11 no tank", t.fuel(0, 0), TrimSheet.NONE);
        t.tank(100, 30);
        t.tank(200, 0);
        due("11 fuel(0, 30)", t.fuel(0, 30), 0);
        due("11 fuel(0, 31)", t.fuel(0, 31), TrimSheet.BAD);
        due("11 fuel(0, -1)", t.fuel(0, -1), TrimSheet.BAD);
        due("11 fuel(1, 1)", t.fuel(1, 1), TrimSheet.BAD);
        due("11 fuel(1, 0)", t.fuel(1, 0), 0);
        due("11 none is told before bad", t.fuel(2, -1), TrimSheet.NONE);
        due("11 tank -1", t.fuel(-1, 0), TrimSheet.NONE);
        due("11 fuel(0, 7)", t.fuel(0, 7), 30);
        due("11 weight", t.weight(2), 7);
        due("11 moment", t.moment(2), 700);
    }

    private static void point() {
        TrimSheet t = new TrimSheet();
        due("12 phase -1", t.point(-1, 1, 0, 0), TrimSheet.NONE);
        due("12 none is told before bad", t.point(2, 0, 1, 0), TrimSheet.NONE);
        due("12 weight 0", t.point(0, 0, 0, 0), TrimSheet.BAD);
        due("12 weight 1000001", t.point(0, 1000001, 0, 0), TrimSheet.BAD);
        due("12 least -1", t.point(0, 1, -1, 0), TrimSheet.BAD);
        due("12 greatest 5001", t.point(0, 1, 0, 5001), TrimSheet.BAD);
        due("12 least 5001", t.point(0, 1, 5001, 5001), TrimSheet.BAD);
        due("12 least above greatest", t.point(0, 1, 5, 4), TrimSheet.BAD);
        due("12 still without points", t.within(0), TrimSheet.STATE);
        due("12 point(0, 1, 0, 0)", t.point(0, 1, 0, 0), 1);
        due("12 alike weight", t.point(0, 1, 0, 5000), TrimSheet.BAD);
        due("12 weight above", t.point(0, 2, 0, 5000), 2);
        for (int n = 3; n <= 9; n++) {
            due("12 point " + n, t.point(0, n * 10, 5000, 5000), n);
        }
        due("12 the tenth", t.point(0, 1000, 0, 0), 10);
        due("12 full", t.point(0, 1000000, 0, 0), TrimSheet.FULL);
        due("12 bad is told before full", t.point(0, 1000, 0, 0), TrimSheet.BAD);
        due("12 the other phase", t.point(1, 1000000, 0, 0), 1);
        due("12 no more", t.point(1, 1000001, 0, 0), TrimSheet.BAD);
        due("12 within", t.within(0), 0);
    }

    private static void wipe() {
        TrimSheet t = new TrimSheet();
        t.point(0, 500, 0, 0);
        t.point(0, 600, 0, 0);
        t.point(1, 700, 0, 0);
        due("13 phase -1", t.wipe(-1), TrimSheet.NONE);
        due("13 phase 2", t.wipe(2), TrimSheet.NONE);
        due("13 wipe(0)", t.wipe(0), 2);
        due("13 wiped", t.within(0), TrimSheet.STATE);
        due("13 the other one stays", t.within(1), 2);
        due("13 wipe(0) again", t.wipe(0), 0);
        due("13 a lesser weight then", t.point(0, 5, 0, 0), 1);
        due("13 wipe(1)", t.wipe(1), 1);
    }
}
