/** The calls of the face by their names, so that a test may make any of them with any numbers. */
final class Calls {
    static final String[] NAMES = {"empty", "hold", "slot", "apart", "item", "row", "tank", "person", "seat", "fuel",
        "point", "wipe", "fits", "load", "unload", "where", "in", "about", "weight", "moment", "burnt", "within",
        "safe", "wrong", "pushed", "arrive", "loadAll", "better", "best", "late", "count"};

    private Calls() {
    }

    /** Numbers that a call does not take are left aside. */
    static long call(TrimSheet t, String name, int... a) {
        switch (name) {
            case "empty": return t.empty(a[0], a[1]);
            case "hold": return t.hold(a[0], a[1]);
            case "slot": return t.slot(a[0], a[1], a[2]);
            case "apart": return t.apart(a[0], a[1], a[2]);
            case "item": return t.item(a[0], a[1], a[2]);
            case "row": return t.row(a[0], a[1]);
            case "tank": return t.tank(a[0], a[1]);
            case "person": return t.person(a[0]);
            case "seat": return t.seat(a[0], a[1]);
            case "fuel": return t.fuel(a[0], a[1]);
            case "point": return t.point(a[0], a[1], a[2], a[3]);
            case "wipe": return t.wipe(a[0]);
            case "fits": return t.fits(a[0], a[1], a[2]);
            case "load": return t.load(a[0], a[1], a[2]);
            case "unload": return t.unload(a[0]);
            case "where": return t.where(a[0]);
            case "in": return t.in(a[0], a[1]);
            case "about": return t.about(a[0], a[1]);
            case "weight": return t.weight(a[0]);
            case "moment": return t.moment(a[0]);
            case "burnt": return t.burnt(a[0], a[1]);
            case "within": return t.within(a[0]);
            case "safe": return t.safe(a[0]);
            case "wrong": return t.wrong(a[0]);
            case "pushed": return t.pushed(a[0]);
            case "arrive": return t.arrive(a[0]);
            case "loadAll": return t.loadAll(a[0]);
            case "better": return t.better(a[0]);
            case "best": return t.best(a[0]);
            case "late": return t.late(a[0], a[1]);
            case "count": return t.count(a[0]);
            default: throw new IllegalArgumentException(name);
        }
    }

    static String told(String name, int... a) {
        StringBuilder text = new StringBuilder(name).append('(');
        for (int n = 0; n < a.length; n++) {
            text.append(n == 0 ? "" : ", ").append(a[n]);
        }
        return text.append(')').toString();
    }
}
