/** Promises 12 to 14: crossmatch, reserve, release. */
public final class ReservationTest {
    public static void main(String[] args) {
        crossmatchLasts();
        onlyTheLatestCounts();
        crossmatchIsOfOnePair();
        crossmatchInWhichStates();
        crossmatchRefusals();
        reservationLasts();
        reservingOutlivesExpiry();
        reserveNeedsNoSample();
        reserveRefusals();
        reserveUnsupported();
        release();
        Check.finish();
    }

    private static String reserving(TypedBlood x, int p, int u) {
        return Check.outcome(() -> x.reserve(p, u));
    }

    private static void crossmatchLasts() {
        TypedBlood x = new TypedBlood();
        int p = x.patient();
        int u = Check.redCells(x, 0);
        Check.fails("without a crossmatch", Check.UNSUPPORTED, () -> x.reserve(p, u));
        x.crossmatch(p, u, true);
        x.pass(4319);
        Check.same("its last minute", reserving(x, p, u), "done");
        x.release(u);
        x.pass(1);
        Check.fails("over", Check.UNSUPPORTED, () -> x.reserve(p, u));
        x.crossmatch(p, u, true);
        Check.same("a new one", reserving(x, p, u), "done");
    }

    private static void onlyTheLatestCounts() {
        TypedBlood x = new TypedBlood();
        int p = x.patient();
        int u = Check.redCells(x, 0);
        x.crossmatch(p, u, false);
        Check.fails("not negative", Check.UNSUPPORTED, () -> x.reserve(p, u));
        x.crossmatch(p, u, true);
        x.crossmatch(p, u, false);
        Check.fails("not negative", Check.UNSUPPORTED, () -> x.reserve(p, u));
        x.pass(10);
        x.crossmatch(p, u, true);
        x.pass(4319);
        Check.same("negative", reserving(x, p, u), "done");
    }

    private static void crossmatchIsOfOnePair() {
        TypedBlood x = new TypedBlood();
        int p = x.patient();
        int q = x.patient();
        int u = Check.redCells(x, 0);
        int v = Check.redCells(x, 0);
        x.crossmatch(p, u, true);
        Check.fails("another unit", Check.UNSUPPORTED, () -> x.reserve(p, v));
        Check.fails("another patient", Check.UNSUPPORTED, () -> x.reserve(q, u));
        x.crossmatch(q, u, false);
        x.crossmatch(p, v, false);
        int washed = x.process(v, 1);
        Check.fails("a product", Check.UNSUPPORTED, () -> x.reserve(p, washed));
        Check.same("the pair", reserving(x, p, u), "done");
    }

    private static void crossmatchInWhichStates() {
        TypedBlood x = new TypedBlood();
        int p = Check.confirmed(x, Check.O, 0);
        int q = Check.locked(x);
        int u = x.unit(8, Check.RED, Check.O, 0, 100);
        x.quarantine(8, true);
        x.crossmatch(p, u, true);
        x.quarantine(8, false);
        x.reserve(p, u);
        x.crossmatch(p, u, true);
        Check.same("reserved for another, locked", Check.outcome(() -> x.crossmatch(q, u, true)), "done");
        x.issue(p, u);
        Check.fails("issued", Check.STATE, () -> x.crossmatch(p, u, true));
        x.giveBack(u);
        x.pass(100);
        x.crossmatch(p, u, true);
        x.discard(u, 1);
        Check.fails("discarded", Check.STATE, () -> x.crossmatch(p, u, true));
    }

    private static void crossmatchRefusals() {
        TypedBlood x = new TypedBlood();
        int p = Check.confirmed(x, Check.O, 0);
        int plasma = Check.plasma(x, 0);
        int platelets = x.unit(0, Check.PLATELETS, Check.O, 0, 100);
        int whole = x.unit(0, Check.WHOLE, Check.O, 0, 100);
        Check.fails("crossmatch", Check.NO_SUCH, () -> x.crossmatch(1, plasma, true));
        Check.fails("crossmatch", Check.NO_SUCH, () -> x.crossmatch(-1, plasma, true));
        Check.fails("crossmatch", Check.NO_SUCH, () -> x.crossmatch(p, 3, true));
        Check.fails("crossmatch", Check.NO_SUCH, () -> x.crossmatch(p, -1, true));
        Check.fails("plasma", Check.UNSUPPORTED, () -> x.crossmatch(p, plasma, true));
        Check.fails("platelets", Check.UNSUPPORTED, () -> x.crossmatch(p, platelets, false));
        Check.fails("whole blood", Check.UNSUPPORTED, () -> x.crossmatch(p, whole, true));
        x.process(whole, 0);
        Check.fails("used up whole blood", Check.STATE, () -> x.crossmatch(p, whole, true));
        x.issue(p, plasma);
        Check.fails("issued plasma", Check.STATE, () -> x.crossmatch(p, plasma, true));
        x.transfused(plasma);
        Check.fails("transfused plasma", Check.STATE, () -> x.crossmatch(p, plasma, true));
    }

    private static void reservationLasts() {
        TypedBlood x = new TypedBlood();
        int other = x.patient();
        int p = x.patient();
        int u = Check.plasma(x, 0);
        x.pass(11);
        Check.same("reserve", x.reserve(p, u), 4331);
        Check.same("state", x.of(u, 0), 1);
        Check.same("for whom", x.of(u, 6), p);
        Check.fails("reserved already", Check.STATE, () -> x.reserve(p, u));
        Check.fails("reserved already", Check.STATE, () -> x.reserve(other, u));
        x.pass(4319);
        Check.same("state", x.of(u, 0), 1);
        Check.same("for whom", x.of(u, 6), p);
        x.pass(1);
        Check.same("state", x.of(u, 0), 0);
        Check.same("for nobody", x.of(u, 6), Check.NONE);
        Check.fails("over", Check.STATE, () -> x.release(u));
        Check.same("reserve", x.reserve(other, u), 8651);
        x.pass(50000);
        Check.same("long over", x.of(u, 0), 0);
        Check.same("nobody received it", x.received(other, 0), Check.NONE);
    }

    private static void reservingOutlivesExpiry() {
        TypedBlood x = new TypedBlood();
        int p = Check.confirmed(x, Check.O, 0);
        int u = x.unit(2, Check.PLASMA, Check.AB, 0, 100);
        Check.same("reserve", x.reserve(p, u), 4320);
        x.pass(100);
        Check.same("still reserved", x.of(u, 0), 1);
        x.quarantine(2, true);
        Check.same("still reserved", x.of(u, 0), 1);
        Check.same("release", x.release(u), p);
        Check.fails("expired and barred", Check.STATE, () -> x.reserve(p, u));
        x.quarantine(2, false);
        Check.fails("expired", Check.STATE, () -> x.reserve(p, u));
    }

    private static void reserveNeedsNoSample() {
        TypedBlood x = new TypedBlood();
        int p = Check.confirmed(x, Check.O, 0);
        x.pass(4320);
        Check.same("an old sample", x.reserve(p, Check.plasma(x, 0)), 8640);
        Check.same("no sample", x.reserve(x.patient(), Check.plasma(x, 0)), 8640);
    }

    private static void reserveRefusals() {
        TypedBlood x = new TypedBlood();
        int p = Check.confirmed(x, Check.O, 0);
        int locked = Check.locked(x);
        int u = x.unit(3, Check.PLASMA, Check.AB, 0, 100);
        int wrong = x.unit(3, Check.WHOLE, Check.O, 0, 100);
        Check.fails("reserve", Check.NO_SUCH, () -> x.reserve(2, u));
        Check.fails("reserve", Check.NO_SUCH, () -> x.reserve(-1, u));
        Check.fails("reserve", Check.NO_SUCH, () -> x.reserve(p, 2));
        Check.fails("reserve", Check.NO_SUCH, () -> x.reserve(locked, -1));
        Check.fails("locked", Check.STATE, () -> x.reserve(locked, u));
        Check.fails("locked, with a reason", Check.STATE, () -> x.reserve(locked, wrong));
        x.quarantine(3, true);
        Check.fails("barred", Check.STATE, () -> x.reserve(p, u));
        Check.fails("barred, with a reason", Check.STATE, () -> x.reserve(p, wrong));
        x.quarantine(3, false);
        x.pass(99);
        Check.same("the last minute", reserving(x, p, u), "done");
        x.release(u);
        x.pass(1);
        Check.fails("expired", Check.STATE, () -> x.reserve(p, u));
        x.discard(u, 4);
        Check.fails("discarded", Check.STATE, () -> x.reserve(p, u));
    }

    private static void reserveUnsupported() {
        TypedBlood x = new TypedBlood();
        int p = Check.confirmed(x, Check.O, 0);
        int whole = x.unit(0, Check.WHOLE, Check.O, 0, 100);
        int group = x.unit(0, Check.RED, Check.A, 0, 100);
        int rhesus = x.unit(0, Check.RED, Check.O, 1, 100);
        int fitting = Check.redCells(x, 0);
        int plasma = Check.plasma(x, 0);
        for (int u : new int[] {group, rhesus, fitting}) {
            x.crossmatch(p, u, true);
        }
        for (int u : new int[] {whole, group, rhesus}) {
            Check.fails("a reason", Check.UNSUPPORTED, () -> x.reserve(p, u));
            Check.same("state", x.of(u, 0), 0);
        }
        x.need(p, 1);
        Check.fails("a need", Check.UNSUPPORTED, () -> x.reserve(p, plasma));
        x.need(p, 0);
        x.antibody(p, 0);
        Check.fails("an antibody", Check.UNSUPPORTED, () -> x.reserve(p, fitting));
        x.antigen(fitting, 0, 0);
        Check.same("no reason and a crossmatch", reserving(x, p, fitting), "done");
        Check.same("plasma needs no crossmatch", reserving(x, p, plasma), "done");
        int platelets = x.unit(0, Check.PLATELETS, Check.AB, 0, 100);
        Check.same("platelets need no crossmatch", reserving(x, p, platelets), "done");
    }

    private static void release() {
        TypedBlood x = new TypedBlood();
        x.patient();
        int p = Check.confirmed(x, Check.O, 0);
        int u = Check.plasma(x, 0);
        Check.fails("release", Check.NO_SUCH, () -> x.release(1));
        Check.fails("release", Check.NO_SUCH, () -> x.release(-1));
        Check.fails("stored", Check.STATE, () -> x.release(u));
        x.reserve(p, u);
        Check.same("release", x.release(u), p);
        Check.same("state", x.of(u, 0), 0);
        Check.same("for nobody", x.of(u, 6), Check.NONE);
        Check.fails("released already", Check.STATE, () -> x.release(u));
        x.issue(p, u);
        Check.fails("issued", Check.STATE, () -> x.release(u));
        x.discard(u, 1);
        Check.fails("discarded", Check.STATE, () -> x.release(u));
    }
}
