import java.util.ArrayList;
import java.util.List;

/** A run of calls that can be told to a new object as often as that is to be looked at. */
final class Story {
    private record Call(String name, int[] numbers) {
    }

    private final List<Call> calls = new ArrayList<>();
    private List<List<Long>> seen = null;

    Story then(String name, int... numbers) {
        calls.add(new Call(name, numbers));
        seen = null;
        return this;
    }

    TrimSheet told() {
        TrimSheet t = new TrimSheet();
        for (Call call : calls) {
            Calls.call(t, call.name, call.numbers);
        }
        return t;
    }

    /** A story with a call that is refused, or a load that does not fit, would not tell what it means to. */
    void mustBeGood(Checks checks) {
        TrimSheet t = new TrimSheet();
        for (Call call : calls) {
            long answer = Calls.call(t, call.name, call.numbers);
            boolean isGood = call.name.equals("load") ? answer == 0 : answer >= 0;
            checks.holds("in a story: " + Calls.told(call.name, call.numbers), isGood);
        }
        checks.holds("a story leaves calls for looks", calls.size() < 180);
    }

    /** A call behind the story answers as it is due, and all looks then as if it had not been made. */
    void changesNothing(Checks checks, String why, long want, String name, int... numbers) {
        String told = why + ": " + Calls.told(name, numbers);
        checks.due(told, Calls.call(told(), name, numbers), want);
        if (seen == null) {
            seen = lookBehind(null);
        }
        compare(checks, told + " changes nothing", lookBehind(new Call(name, numbers)), seen);
    }

    /** All looks behind this story as it does behind another one. */
    void looksLike(Checks checks, String why, Story other) {
        compare(checks, why, lookBehind(null), other.lookBehind(null));
    }

    private static void compare(Checks checks, String why, List<List<Long>> one, List<List<Long>> other) {
        for (int look = 0; look < Look.LOOKS; look++) {
            checks.holds(why + ", look " + look, one.get(look).equals(other.get(look)));
        }
    }

    private List<List<Long>> lookBehind(Call call) {
        List<List<Long>> looks = new ArrayList<>();
        for (int look = 0; look < Look.LOOKS; look++) {
            TrimSheet t = told();
            if (call != null) {
                Calls.call(t, call.name, call.numbers);
            }
            looks.add(Look.at(t, look));
        }
        return looks;
    }
}
