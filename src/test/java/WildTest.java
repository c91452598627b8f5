import java.util.Random;

/** Any arguments in any state: no call throws, and a refused one changes nothing that can be seen. */
public final class WildTest {
    private static final Checks CHECKS = new Checks();
    private static final int[] EDGES = {Integer.MIN_VALUE, Integer.MIN_VALUE + 1, -5001, -2, -1, 0, 1, 2, 3, 4, 5, 7, 8,
        9, 10, 39, 40, 41, 49, 50, 80, 81, 150, 151, 999, 1000, 1001, 5000, 5001, 19999, 20000, 20001, 100000, 100001,
        1000000, 1000001, Integer.MAX_VALUE - 1, Integer.MAX_VALUE};

    public static void main(String[] args) {
        for (int run = 0; run < 400; run++) {
            Random random = new Random(31L * run + 5);
            TrimSheet sheet = new TrimSheet();
            for (int call = 0; call < 512; call++) {
                callOne(sheet, random, run);
            }
        }
        CHECKS.end("WildTest");
    }

    private static int any(Random random) {
        switch (random.nextInt(8)) {
            case 0: return EDGES[random.nextInt(EDGES.length)];
            case 1: return random.nextInt();
            case 2: return random.nextInt(5001);
            case 3: return random.nextInt(100);
            default: return random.nextInt(9);
        }
    }

    private static void callOne(TrimSheet sheet, Random random, int run) {
        long before = seen(sheet);
        String name = Calls.NAMES[random.nextInt(Calls.NAMES.length)];
        int[] a = {any(random), any(random), any(random), any(random)};
        // Good numbers are rare among any: without some help nothing would ever be there.
        if (random.nextInt(2) == 0) {
            helpUp(name, a, random);
        }
        boolean isRefused = Calls.call(sheet, name, a) < 0;
        if (isRefused) {
            CHECKS.due("run " + run + " refused " + Calls.told(name, a), seen(sheet), before);
        }
    }

    private static void helpUp(String name, int[] a, Random random) {
        switch (name) {
            case "empty": a[0] = 1000 + random.nextInt(5000); a[1] = random.nextInt(5001); break;
            case "slot": a[0] = random.nextInt(4); a[1] = random.nextInt(5001); a[2] = random.nextInt(5001); break;
            case "item": a[0] = 1 + random.nextInt(500); a[1] = random.nextInt(8); a[2] = 1 + random.nextInt(4); break;
            case "point": a[0] = random.nextInt(2); a[1] = random.nextInt(20000); a[2] = random.nextInt(2000);
                a[3] = 2000 + random.nextInt(3000); break;
            default: break;
        }
    }

    /** All that can be seen of an object without changing it, in one number. */
    private static long seen(TrimSheet t) {
        long sum = 0;
        for (int what = 0; what < 8; what++) {
            sum = 31 * sum + t.count(what);
        }
        for (int i = 0; i < 40; i++) {
            sum = 31 * sum + t.where(i);
            sum = 31 * sum + t.fits(i, i % 4, i % 8);
        }
        for (int place = 0; place < 32; place++) {
            sum = 31 * sum + t.in(place / 8, place % 8);
        }
        for (int n = 0; n < 12; n++) {
            sum = 31 * sum + t.about(n / 3, n % 3);
        }
        for (int what = 0; what < 3; what++) {
            sum = 31 * sum + t.weight(what);
            sum = 31 * sum + t.moment(what);
        }
        sum = 31 * sum + t.within(0);
        sum = 31 * sum + t.within(1);
        sum = 31 * sum + t.wrong(Integer.MAX_VALUE);
        sum = 31 * sum + t.safe(0);
        sum = 31 * sum + t.pushed(0);
        return sum;
    }
}
