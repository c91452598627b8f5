import java.util.LinkedHashMap;
import java.util.Map;

/** "An object is used for at most 512 calls after it has been made": the last of them answers as the first. */
public final class LifeTest {
    private static final Checks CHECKS = new Checks();
    private static final int CALLS = 512;

    public static void main(String[] args) {
        lastCallAnswersAsAnEarlyOne();
        lastCallStillChanges();
        allCallsChange();
        allCallsAreRefused();
        twoObjectsInTurns();
        CHECKS.end("LifeTest");
    }

    /** Something of everything, so that each call below has something to do; 31 calls. */
    private static final String[] AIRCRAFT = {"empty 2000 1000", "hold 500 300", "slot 0 900 200", "slot 0 950 200",
        "slot 0 1000 200", "hold 900 900", "slot 1 1100 400", "slot 1 1150 400", "apart 0 1 2", "item 150 0 1",
        "item 180 1 2", "item 100 0 2", "item 90 2 3", "load 0 0 0", "load 2 0 2", "row 800 3", "row 1200 2",
        "seat 0 1", "person 90", "tank 1000 300", "tank 1500 100", "fuel 0 200", "fuel 1 100", "point 0 1000 900 1100",
        "point 0 3000 900 1100", "point 1 1000 900 1100", "point 1 4000 900 1100", "load 1 1 1", "unload 1",
        "load 1 1 1", "unload 1"};

    /** What each call has to answer behind those. */
    private static Map<String, Long> dueBehindThose() {
        Map<String, Long> due = new LinkedHashMap<>();
        due.put("empty 1000 0", 0L);
        due.put("hold 1 1", 2L);
        due.put("slot 1 1200 1", 2L);
        due.put("apart 1 0 3", 2L);
        due.put("item 1 0 1", 4L);
        due.put("row 1 1", 2L);
        due.put("tank 1 1", 2L);
        due.put("person 50", 90L);
        due.put("seat 0 3", 1L);
        due.put("fuel 1 0", 100L);
        due.put("point 1 5000 0 0", 3L);
        due.put("wipe 0", 2L);
        due.put("fits 1 0 1", 4L);
        due.put("load 1 1 0", 0L);
        due.put("unload 0", 0L);
        due.put("where 2", 2L);
        due.put("in 0 2", 2L);
        due.put("about 0 0", 250L);
        due.put("weight 1", 2000L + 250 + 90 + 300);
        due.put("moment 2", 350000L);
        due.put("burnt 150 0", 2000000L + 135000 + 100000 + 72000 + 150000);
        due.put("within 1", 0L);
        due.put("safe 300", 1L);
        due.put("wrong 300", -1L);
        due.put("pushed 0", 0L);
        due.put("arrive 2", 1L);
        due.put("loadAll 1000", 2L);
        due.put("better 1000", 4L);
        due.put("best 1000", 0L);
        due.put("late 9 1000", 4L);
        due.put("count 3", 2L);
        return due;
    }

    private static long make(TrimSheet t, String call) {
        String[] parts = call.split(" ");
        int[] numbers = new int[parts.length - 1];
        for (int n = 0; n < numbers.length; n++) {
            numbers[n] = Integer.parseInt(parts[n + 1]);
        }
        return Calls.call(t, parts[0], numbers);
    }

    private static TrimSheet aircraft() {
        TrimSheet t = new TrimSheet();
        for (String call : AIRCRAFT) {
            CHECKS.holds(call, make(t, call) >= 0);
        }
        return t;
    }

    /** An aircraft that has this many calls behind it; those on top change nothing. */
    private static TrimSheet usedFor(int calls) {
        TrimSheet t = aircraft();
        for (int n = AIRCRAFT.length; n < calls; n++) {
            t.count(n % 8);
        }
        return t;
    }

    private static void lastCallAnswersAsAnEarlyOne() {
        Map<String, Long> due = dueBehindThose();
        CHECKS.due("calls of the face", due.size(), Calls.NAMES.length);
        for (Map.Entry<String, Long> d : due.entrySet()) {
            CHECKS.due("early " + d.getKey(), make(aircraft(), d.getKey()), d.getValue());
            CHECKS.due("the last but one " + d.getKey(), make(usedFor(CALLS - 2), d.getKey()), d.getValue());
            CHECKS.due("the last " + d.getKey(), make(usedFor(CALLS - 1), d.getKey()), d.getValue());
        }
    }

    /** The last but one call does something; the last one sees it. */
    private static void lastCallStillChanges() {
        String[][] pairs = {{"empty 1000 0", "moment 0", "307000"}, {"hold 1 1", "count 0", "3"},
            {"item 1 0 1", "count 2", "5"}, {"person 50", "count 7", "50"}, {"seat 0 3", "count 5", "3"},
            {"fuel 1 0", "weight 2", "200"}, {"wipe 0", "within 0", "-3"}, {"load 1 1 0", "where 1", "8"},
            {"unload 0", "in 0 0", "-1"}, {"arrive 2", "where 2", "-1"}, {"loadAll 1000", "count 3", "4"},
            {"best 1000", "count 3", "4"}, {"late 9 1000", "count 5", "5"}};
        for (String[] p : pairs) {
            TrimSheet t = usedFor(CALLS - 2);
            make(t, p[0]);
            CHECKS.due("the last call behind " + p[0] + ": " + p[1], make(t, p[1]), Long.parseLong(p[2]));
        }
    }

    private static void allCallsChange() {
        TrimSheet t = new TrimSheet();
        t.hold(100, 100);
        t.slot(0, 10, 100);
        t.slot(0, 20, 100);
        t.item(10, 0, 1);
        for (int n = 4; n < CALLS; n += 2) {
            CHECKS.due("in " + n, t.load(0, 0, n / 2 % 2), 0);
            CHECKS.due("out " + n, t.unload(0), 0);
        }
        TrimSheet told = new TrimSheet();
        int before = 0;
        for (int n = 0; n < CALLS; n++) {
            CHECKS.due("apart " + n, told.apart(n % 2, 1 - n % 2, n % 9), before);
            before = n % 9;
        }
    }

    private static void allCallsAreRefused() {
        TrimSheet t = new TrimSheet();
        for (int n = 0; n < CALLS - 1; n++) {
            CHECKS.due("refused " + n, t.empty(n, n), TrimSheet.BAD);
        }
        CHECKS.due("the last one is not", t.empty(5000, 5000), 0);
    }

    /** Each object has calls and a state of its own. */
    private static void twoObjectsInTurns() {
        TrimSheet one = new TrimSheet();
        TrimSheet other = new TrimSheet();
        for (int n = 0; n < CALLS / 2; n++) {
            CHECKS.due("one " + n, one.empty(1000 + n, 1), 0);
            CHECKS.due("other " + n, other.empty(100000 - n, 2), 0);
            CHECKS.due("one " + n, one.moment(0), 1000 + n);
            CHECKS.due("other " + n, other.moment(0), 2L * (100000 - n));
        }
    }
}
