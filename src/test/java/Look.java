import java.util.ArrayList;
import java.util.List;

/**
 * All that can be seen of an aircraft. A look changes it, to see what answers do not show by
 * themselves; so each of the looks takes an object of its own, and few enough calls that the
 * object stays below its 512.
 */
final class Look {
    static final int LOOKS = 9;
    private static final int[] WEIGHTS = {1000, 1001, 1499, 1500, 1501, 1999, 2000, 2001, 2500, 3000, 3001, 4000,
        5000, 7000, 9999, 10000, 10001, 20000, 50000, 100000};

    private final TrimSheet t;
    private final List<Long> seen = new ArrayList<>();

    private Look(TrimSheet t) {
        this.t = t;
    }

    static List<Long> at(TrimSheet t, int look) {
        Look all = new Look(t);
        switch (look) {
            case 0: all.answers(); break;
            case 1: all.settings(); break;
            case 2: all.limits(); break;
            case 3: all.rules(); break;
            case 4: all.room(); break;
            default: all.fitsInHold(look - 5); break;
        }
        return all.seen;
    }

    private void see(long answer) {
        seen.add(answer);
    }

    /** What is told without changing anything. */
    private void answers() {
        for (int what = 0; what < 8; what++) {
            see(t.count(what));
        }
        for (int what = 0; what < 3; what++) {
            see(t.weight(what));
            see(t.moment(what));
        }
        for (int item = 0; item < 40; item++) {
            see(t.where(item));
        }
        for (int place = 0; place < 32; place++) {
            see(t.in(place / 8, place % 8));
        }
        for (int n = 0; n < 12; n++) {
            see(t.about(n / 3, n % 3));
        }
        for (int stop = 0; stop <= 4; stop++) {
            see(t.pushed(stop));
        }
        flight();
    }

    private void flight() {
        see(t.within(0));
        see(t.within(1));
        int all = t.weight(2);
        for (int part = 0; part <= 10; part++) {
            see(t.burnt(all * part / 10, 0));
            see(t.safe(all * part / 10));
            see(t.wrong(all * part / 10));
        }
    }

    /** What is told by the calls that set it: distances, seats and fuel, with their bounds. */
    private void settings() {
        for (int n = 0; n < 64; n++) {
            see(t.apart(n / 8, n % 8, 0));
        }
        for (int row = 0; row < 10; row++) {
            for (int n = 8; n >= 0; n -= 2) {
                see(t.seat(row, n));
            }
            see(t.moment(0));
        }
        for (int tank = 0; tank < 4; tank++) {
            see(t.fuel(tank, 0));
            see(mostOf(tank));
            see(t.moment(2));
        }
        see(t.person(50));
        see(t.weight(0));
    }

    private int mostOf(int tank) {
        int most = 0;
        for (int step = 16384; step > 0; step /= 2) {
            if (t.fuel(tank, most + step) >= 0) {
                most += step;
            }
        }
        return most;
    }

    private void limits() {
        for (int weight : WEIGHTS) {
            for (int arm = 1900; arm <= 2100; arm += 100) {
                t.empty(weight, arm);
                see(t.within(0));
                see(t.within(1));
                see(t.wrong(Integer.MAX_VALUE));
            }
        }
        see(t.wipe(0));
        see(t.wipe(1));
    }

    private void rules() {
        see(t.best(2000));
        places();
        see(t.loadAll(2000));
        places();
        see(t.better(2000));
        places();
        see(t.late(3, 2000));
        see(t.moment(0));
        for (int stop = 1; stop <= 4; stop++) {
            see(t.arrive(stop));
        }
    }

    private void places() {
        for (int item = 0; item < 40; item++) {
            see(t.where(item));
        }
    }

    /** How many more of each there may be, and which arms a next slot may have. */
    private void room() {
        for (int hold = 0; hold < 4; hold++) {
            for (int arm = 0; arm <= 5000; arm += 250) {
                see(t.slot(hold, arm, 100));
            }
        }
        for (int n = 0; n < 11; n++) {
            see(t.row(1, 1));
            see(t.point(0, 900000 + n, 0, 0));
            see(t.point(1, 900000 + n, 0, 0));
        }
        for (int n = 0; n < 5; n++) {
            see(t.hold(1, 1));
            see(t.tank(1, 1));
        }
        for (int n = 0; n < 41; n++) {
            see(t.item(1, 0, 1));
        }
    }

    private void fitsInHold(int hold) {
        for (int item = 0; item < 40; item++) {
            for (int slot = 0; slot < 8; slot++) {
                see(t.fits(item, hold, slot));
            }
        }
    }
}
