/** Promises 15 and 16: issue and emergency. */
public final class IssueTest {
    public static void main(String[] args) {
        issuing();
        countsWhatIsOut();
        reservedUnits();
        freshSample();
        unitsThatMayNotLeave();
        issueNoSuch();
        issueUnsupported();
        crossmatchMustBeValid();
        emergency();
        emergencyAsksLess();
        emergencyKindsAndGroups();
        emergencyRefusals();
        Check.finish();
    }

    private static String issuing(TypedBlood x, int p, int u) {
        return Check.outcome(() -> x.issue(p, u));
    }

    private static void issuing() {
        TypedBlood x = new TypedBlood();
        x.patient();
        int p = x.patient();
        x.sample(p, Check.A, 1);
        int u = Check.plasma(x, 0);
        Check.same("one sample is enough", x.issue(p, u), 1);
        Check.same("state", x.of(u, 0), 2);
        Check.same("to whom", x.of(u, 6), p);
        Check.same("no doctor", x.of(u, 8), 0);
        Check.fails("issued already", Check.STATE, () -> x.issue(p, u));
        x.pass(50000);
        Check.same("it stays issued", x.of(u, 0), 2);
        Check.same("to whom", x.of(u, 6), p);
    }

    private static void countsWhatIsOut() {
        TypedBlood x = new TypedBlood();
        int p = Check.confirmed(x, Check.O, 0);
        int q = Check.confirmed(x, Check.O, 0);
        for (int i = 0; i < 6; i++) {
            Check.plasma(x, 0);
        }
        Check.same("issue", x.issue(p, 0), 1);
        Check.same("issue", x.issue(p, 1), 2);
        Check.same("another's", x.issue(q, 2), 1);
        x.transfused(0);
        x.discard(1, 1);
        x.reserve(p, 5);
        Check.same("transfused and discarded ones count", x.issue(p, 3), 3);
        x.giveBack(3);
        Check.same("what was given back does not", x.emergency(p, 4, 5), 3);
        Check.same("nor did the reserved one", x.issue(p, 5), 4);
    }

    private static void reservedUnits() {
        TypedBlood x = new TypedBlood();
        int p = Check.confirmed(x, Check.O, 0);
        int q = Check.confirmed(x, Check.O, 0);
        int u = Check.plasma(x, 0);
        x.reserve(p, u);
        Check.fails("reserved for another", Check.STATE, () -> x.issue(q, u));
        Check.fails("reserved for another", Check.STATE, () -> x.emergency(q, u, 1));
        Check.same("reserved for this one", x.issue(p, u), 1);
        x.giveBack(u);
        Check.same("given back, it is stored", x.of(u, 0), 0);
        x.pass(4319);
        Check.same("and not reserved", x.issue(q, u), 1);
        x.pass(1);
        Check.same("an issue does not end with the reservation", x.of(u, 0), 2);
    }

    private static void freshSample() {
        TypedBlood x = new TypedBlood();
        int p = x.patient();
        int u = Check.plasma(x, 0);
        Check.fails("no sample", Check.STATE, () -> x.issue(p, u));
        x.pass(5000);
        Check.fails("no sample", Check.STATE, () -> x.issue(p, u));
        x.sample(p, Check.A, 0);
        x.pass(4319);
        Check.same("its last minute", issuing(x, p, u), "done");
        x.giveBack(u);
        x.pass(1);
        Check.fails("too old", Check.STATE, () -> x.issue(p, u));
        x.sample(p, Check.A, 0);
        x.pass(4319);
        Check.same("the latest counts", issuing(x, p, u), "done");
    }

    private static void unitsThatMayNotLeave() {
        TypedBlood x = new TypedBlood();
        int p = Check.confirmed(x, Check.O, 0);
        int locked = Check.locked(x);
        int u = x.unit(3, Check.PLASMA, Check.AB, 0, 100);
        int reserved = x.unit(3, Check.PLASMA, Check.AB, 0, 100);
        int wrong = x.unit(3, Check.WHOLE, Check.AB, 0, 100);
        x.reserve(p, reserved);
        Check.fails("locked", Check.STATE, () -> x.issue(locked, u));
        Check.fails("locked, with a reason", Check.STATE, () -> x.issue(locked, wrong));
        x.quarantine(3, true);
        Check.fails("barred", Check.STATE, () -> x.issue(p, u));
        Check.fails("barred and reserved", Check.STATE, () -> x.issue(p, reserved));
        Check.fails("barred, with a reason", Check.STATE, () -> x.issue(p, wrong));
        Check.fails("barred", Check.STATE, () -> x.emergency(p, u, 1));
        Check.fails("barred and reserved", Check.STATE, () -> x.emergency(p, reserved, 1));
        x.quarantine(3, false);
        x.pass(99);
        Check.same("the last minute", issuing(x, p, u), "done");
        x.giveBack(u);
        x.pass(1);
        Check.fails("expired", Check.STATE, () -> x.issue(p, u));
        Check.fails("expired and reserved", Check.STATE, () -> x.issue(p, reserved));
        Check.fails("expired", Check.STATE, () -> x.emergency(p, u, 1));
        Check.fails("expired and reserved", Check.STATE, () -> x.emergency(p, reserved, 1));
        Check.same("still reserved", x.of(reserved, 0), 1);
        x.discard(u, 1);
        Check.fails("discarded", Check.STATE, () -> x.issue(p, u));
    }

    private static void issueNoSuch() {
        TypedBlood x = new TypedBlood();
        int locked = Check.locked(x);
        int u = Check.plasma(x, 0);
        Check.fails("issue", Check.NO_SUCH, () -> x.issue(1, u));
        Check.fails("issue", Check.NO_SUCH, () -> x.issue(-1, u));
        Check.fails("issue", Check.NO_SUCH, () -> x.issue(locked, 1));
        Check.fails("issue", Check.NO_SUCH, () -> x.issue(locked, -1));
    }

    private static void issueUnsupported() {
        TypedBlood x = new TypedBlood();
        int p = Check.confirmed(x, Check.A, 0);
        int whole = x.unit(0, Check.WHOLE, Check.A, 0, 100);
        int group = x.unit(0, Check.PLASMA, Check.B, 0, 100);
        int red = Check.redCells(x, 0);
        int plasma = Check.plasma(x, 0);
        Check.fails("whole blood", Check.UNSUPPORTED, () -> x.issue(p, whole));
        Check.fails("the group", Check.UNSUPPORTED, () -> x.issue(p, group));
        x.crossmatch(p, red, true);
        x.antibody(p, 0);
        Check.fails("the antibodies", Check.UNSUPPORTED, () -> x.issue(p, red));
        x.reserve(p, plasma);
        x.need(p, 4);
        Check.fails("a need that came after the reservation", Check.UNSUPPORTED, () -> x.issue(p, plasma));
        Check.same("still reserved", x.of(plasma, 0), 1);
        x.need(p, 0);
        Check.same("issue", x.issue(p, plasma), 1);
    }

    private static void crossmatchMustBeValid() {
        TypedBlood x = new TypedBlood();
        int p = Check.confirmed(x, Check.A, 1);
        int u = Check.redCells(x, 0);
        Check.fails("no crossmatch", Check.UNSUPPORTED, () -> x.issue(p, u));
        x.crossmatch(p, u, false);
        Check.fails("not negative", Check.UNSUPPORTED, () -> x.issue(p, u));
        x.crossmatch(p, u, true);
        x.pass(10);
        x.sample(p, Check.A, 1);
        x.pass(4309);
        x.reserve(p, u);
        Check.same("its last minute", issuing(x, p, u), "done");
        x.giveBack(u);
        x.pass(1);
        Check.fails("too old", Check.UNSUPPORTED, () -> x.issue(p, u));
        x.crossmatch(p, u, true);
        x.reserve(p, u);
        x.crossmatch(p, u, false);
        Check.fails("reserved, and not negative then", Check.UNSUPPORTED, () -> x.issue(p, u));
        x.crossmatch(p, u, true);
        Check.same("issue", x.issue(p, u), 1);
    }

    private static void emergency() {
        TypedBlood x = new TypedBlood();
        int p = x.patient();
        int u = Check.redCells(x, 0);
        int v = Check.plasma(x, 0);
        Check.same("emergency", x.emergency(p, u, 1), 1);
        Check.same("emergency", x.emergency(p, v, 999), 2);
        Check.same("state", x.of(u, 0), 2);
        Check.same("to whom", x.of(u, 6), p);
        Check.same("the doctor", x.of(u, 8), 1);
        Check.same("the doctor", x.of(v, 8), 999);
        x.transfused(u);
        x.discard(v, 2);
        Check.same("the doctor stays", x.of(u, 8), 1);
        Check.same("the doctor stays", x.of(v, 8), 999);
    }

    private static void emergencyAsksLess() {
        TypedBlood x = new TypedBlood();
        int p = Check.confirmed(x, Check.AB, 1);
        int u = x.unit(0, Check.RED, Check.O, 1, 60000);
        x.crossmatch(p, u, false);
        x.pass(4320);
        Check.same("an old sample, and a crossmatch that is not negative", x.emergency(p, u, 5), 1);
        x.giveBack(u);
        Check.same("the doctor is noted no more", x.of(u, 8), 0);
        x.sample(p, Check.AB, 1);
        x.crossmatch(p, u, true);
        x.issue(p, u);
        Check.same("issued without a doctor", x.of(u, 8), 0);
        int v = Check.plasma(x, 0);
        x.reserve(p, v);
        Check.same("reserved for this one", x.emergency(p, v, 5), 2);
    }

    private static void emergencyKindsAndGroups() {
        for (int kind = 0; kind < 4; kind++) {
            for (int group = 0; group < 4; group++) {
                TypedBlood x = new TypedBlood();
                int k = kind;
                int p = Check.confirmed(x, kind == Check.RED ? Check.AB : Check.O, 1);
                int u = x.unit(0, kind, group, 1, 100);
                boolean may = kind == Check.RED && group == Check.O || kind == Check.PLASMA && group == Check.AB;
                Check.same("kind " + k + ", group " + group, Check.outcome(() -> x.emergency(p, u, 5)),
                    may ? "done" : Check.UNSUPPORTED.getName());
                Check.same("state", x.of(u, 0), may ? 2 : 0);
            }
        }
    }

    private static void emergencyRefusals() {
        TypedBlood x = new TypedBlood();
        int p = x.patient();
        int locked = Check.locked(x);
        int rhesus = x.unit(0, Check.RED, Check.O, 1, 100);
        int u = Check.redCells(x, 0);
        int plasma = Check.plasma(x, 0);
        Check.fails("emergency", Check.NO_SUCH, () -> x.emergency(2, u, 0));
        Check.fails("emergency", Check.NO_SUCH, () -> x.emergency(-1, u, 1));
        Check.fails("emergency", Check.NO_SUCH, () -> x.emergency(p, 3, 0));
        Check.fails("emergency", Check.NO_SUCH, () -> x.emergency(p, -1, 1));
        Check.fails("no doctor", Check.ARGUMENT, () -> x.emergency(p, u, 0));
        Check.fails("no doctor", Check.ARGUMENT, () -> x.emergency(p, u, 1000));
        Check.fails("no doctor, locked", Check.ARGUMENT, () -> x.emergency(locked, u, -1));
        Check.fails("locked", Check.STATE, () -> x.emergency(locked, u, 1));
        Check.fails("locked, and not for emergencies", Check.STATE, () -> x.emergency(locked, rhesus, 1));
        Check.fails("rhesus", Check.UNSUPPORTED, () -> x.emergency(p, rhesus, 1));
        x.antibody(p, 2);
        Check.fails("antibodies", Check.UNSUPPORTED, () -> x.emergency(p, u, 1));
        x.need(p, 4);
        Check.fails("needs", Check.UNSUPPORTED, () -> x.emergency(p, plasma, 1));
        x.need(p, 0);
        Check.same("emergency", x.emergency(p, plasma, 1), 1);
        Check.fails("issued already", Check.STATE, () -> x.emergency(p, plasma, 1));
        Check.fails("issued already, no doctor", Check.ARGUMENT, () -> x.emergency(p, plasma, 0));
    }
}
