import java.util.Random;

/** Any arguments in any state: no call throws, and a refused one changes nothing that can be seen. */
public final class WildTest {
    private static final Checks CHECKS = new Checks();
    private static final int[] EDGES = {Integer.MIN_VALUE, Integer.MIN_VALUE + 1, -5001, -2, -1, 0, 1, 2, 3, 4, 5, 7, 8,
        9, 10, 39, 40, 41, 49, 50, 80, 81, 150, 151, 999, 1000, 1001, 5000, 5001, 19999, 20000, 20001, 100000, 100001,
        1000000, 1000001, Integer.MAX_VALUE - 1, Integer.MAX_VALUE};

    public static void main(String[] args) {
        for (int run = 0; run < 400; run++) {
            Random random = new Random(31L * run + 5);
            TrimSheet sheet = new TrimSheet();
            for (int call = 0; call < 512; call++) {
                callOne(sheet, random, run);
            }
        }
        CHECKS.end("WildTest");
    }

    private static int any(Random random) {
        switch (random.nextInt(8)) {
            case 0: return EDGES[random.nextInt(EDGES.length)];
            case 1: return random.nextInt();
            case 2: return random.nextInt(5001);
            case 3: return random.nextInt(100);
            default: return random.nextInt(9);
        }
    }

    private static void callOne(TrimSheet sheet, Random random, int run) {
        long before = seen(sheet);
        int which = random.nextInt(31);
        int[] a = {any(random), any(random), any(random), any(random)};
        // Good numbers are rare among any: without some help nothing would ever be there.
        if (random.nextInt(2) == 0) {
            helpUp(which, a, random);
        }
        long answer = call(sheet, which, a);
        boolean isRefused = answer < 0;
        if (isRefused) {
            CHECKS.due("run " + run + " refused call " + which + " (" + a[0] + ", " + a[1] + ", " + a[2] + ", " + a[3]
                    + ")", seen(sheet), before);
        }
    }

    private static void helpUp(int which, int[] a, Random random) {
        switch (which) {
            case 0: a[0] = 1000 + random.nextInt(5000); a[1] = random.nextInt(5001); break;
            case 2: a[0] = random.nextInt(4); a[1] = random.nextInt(5001); a[2] = random.nextInt(5001); break;
            case 4: a[0] = 1 + random.nextInt(500); a[1] = random.nextInt(8); a[2] = 1 + random.nextInt(4); break;
            case 10: a[0] = random.nextInt(2); a[1] = random.nextInt(20000); a[2] = random.nextInt(2000);
                a[3] = 2000 + random.nextInt(3000); break;
            default: break;
        }
    }

    private static long call(TrimSheet t, int which, int[] a) {
        switch (which) {
            case 0: return t.empty(a[0], a[1]);
            case 1: return t.hold(a[0], a[1]);
            case 2: return t.slot(a[0], a[1], a[2]);
            case 3: return t.apart(a[0], a[1], a[2]);
            case 4: return t.item(a[0], a[1], a[2]);
            case 5: return t.row(a[0], a[1]);
            case 6: return t.tank(a[0], a[1]);
            case 7: return t.person(a[0]);
            case 8: return t.seat(a[0], a[1]);
            case 9: return t.fuel(a[0], a[1]);
            case 10: return t.point(a[0], a[1], a[2], a[3]);
            case 11: return t.wipe(a[0]);
            case 12: return t.fits(a[0], a[1], a[2]);
            case 13: return t.load(a[0], a[1], a[2]);
            case 14: return t.unload(a[0]);
            case 15: return t.where(a[0]);
            case 16: return t.in(a[0], a[1]);
            case 17: return t.about(a[0], a[1]);
            case 18: return t.weight(a[0]);
            case 19: return t.moment(a[0]);
            case 20: return t.burnt(a[0], a[1]);
            case 21: return t.within(a[0]);
            case 22: return t.safe(a[0]);
            case 23: return t.wrong(a[0]);
            case 24: return t.pushed(a[0]);
            case 25: return t.arrive(a[0]);
            case 26: return t.loadAll(a[0]);
            case 27: return t.better(a[0]);
            case 28: return t.best(a[0]);
            case 29: return t.late(a[0], a[1]);
            default: return t.count(a[0]);
        }
    }

    /** All that can be seen of an object without changing it, in one number. */
    private static long seen(TrimSheet t) {
        long sum = 0;
        for (int what = 0; what < 8; what++) {
            sum = 31 * sum + t.count(what);
        }
        for (int i = 0; i < 40; i++) {
            sum = 31 * sum + t.where(i);
            sum = 31 * sum + t.fits(i, i % 4, i % 8);
        }
        for (int place = 0; place < 32; place++) {
            sum = 31 * sum + t.in(place / 8, place % 8);
        }
        for (int n = 0; n < 12; n++) {
            sum = 31 * sum + t.about(n / 3, n % 3);
        }
        for (int what = 0; what < 3; what++) {
            sum = 31 * sum + t.weight(what);
            sum = 31 * sum + t.moment(what);
        }
        sum = 31 * sum + t.within(0);
        sum = 31 * sum + t.within(1);
        sum = 31 * sum + t.wrong(Integer.MAX_VALUE);
        sum = 31 * sum + t.safe(0);
        sum = 31 * sum + t.pushed(0);
        return sum;
    }
}
