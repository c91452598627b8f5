import java.util.Random;
import java.util.Set;

/**
 * Any arguments in any state: no call throws, and neither a refused call nor one that only asks
 * changes anything that can be seen.
 */
public final class WildTest {
    private static final Checks CHECKS = new Checks();
    private static final int[] EDGES = {Integer.MIN_VALUE, Integer.MIN_VALUE + 1, -5001, -2, -1, 0, 1, 2, 3, 4, 5, 7, 8,
        9, 10, 39, 40, 41, 49, 50, 80, 81, 150, 151, 999, 1000, 1001, 5000, 5001, 19999, 20000, 20001, 100000, 100001,
        1000000, 1000001, Integer.MAX_VALUE - 1, Integer.MAX_VALUE};
    private static final Set<String> ASKING = Set.of("fits", "where", "in", "about", "weight", "moment", "burnt",
        "within", "safe", "wrong", "pushed", "count");

    public static void main(String[] args) {
        for (int run = 0; run < 1000; run++) {
            anyCalls(new Random(31L * run + 5), run);
            refusedOnesLeftOut(new Random(37L * run + 7), run);
        }
        CHECKS.end("WildTest");
    }

    /** As many calls as an object is promised to answer. */
    private static void anyCalls(Random random, int run) {
        TrimSheet sheet = new TrimSheet();
        for (int call = 0; call < 512; call++) {
            String name = Calls.NAMES[random.nextInt(Calls.NAMES.length)];
            int[] a = numbers(name, random);
            long answer = Calls.call(sheet, name, a);
            boolean isLong = name.equals("moment") || name.equals("burnt");
            boolean isAnswer = answer >= (name.equals("best") ? -5 : -4) || isLong && answer == TrimSheet.NO;
            CHECKS.holds("run " + run + " an answer of the document: " + Calls.told(name, a), isAnswer);
        }
    }

    /** Two stories that differ in refused and in asking calls alone must end in aircraft that look alike. */
    private static void refusedOnesLeftOut(Random random, int run) {
        Story all = new Story();
        Story done = new Story();
        TrimSheet sheet = new TrimSheet();
        for (int call = 0; call < 150; call++) {
            String name = Calls.NAMES[random.nextInt(Calls.NAMES.length)];
            int[] a = numbers(name, random);
            long answer = Calls.call(sheet, name, a);
            boolean isDone = name.equals("load") ? answer == 0 : answer >= 0 && !ASKING.contains(name);
            all.then(name, a);
            if (isDone) {
                done.then(name, a);
            }
        }
        all.looksLike(CHECKS, "run " + run + " with its refused calls", done);
    }

    private static int[] numbers(String name, Random random) {
        int[] a = {any(random), any(random), any(random), any(random)};
        // Good numbers are rare among any: without some help nothing would ever be there.
        if (random.nextInt(2) == 0) {
            helpUp(name, a, random);
        }
        return a;
    }

    private static int any(Random random) {
        switch (random.nextInt(8)) {
            case 0: return EDGES[random.nextInt(EDGES.length)];
            case 1: return random.nextInt();
            case 2: return random.nextInt(5001);
            case 3: return random.nextInt(100);
            default: return random.nextInt(9);
        }
    }

    private static void helpUp(String name, int[] a, Random random) {
        switch (name) {
            case "empty": a[0] = 1000 + random.nextInt(5000); a[1] = random.nextInt(5001); break;
            case "slot": a[0] = random.nextInt(4); a[1] = random.nextInt(5001); a[2] = random.nextInt(5001); break;
            case "item": a[0] = 1 + random.nextInt(500); a[1] = random.nextInt(8); a[2] = 1 + random.nextInt(4); break;
            case "point": a[0] = random.nextInt(2); a[1] = random.nextInt(20000); a[2] = random.nextInt(2000);
                a[3] = 2000 + random.nextInt(3000); break;
            default: break;
        }
    }
}
