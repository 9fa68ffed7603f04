/** Promises 17 to 20: giveBack, transfused, discard, quarantine. */
public final class AfterIssueTest {
    public static void main(String[] args) {
        giveBack();
        giveBackWhenExpired();
        giveBackRefusals();
        transfused();
        discard();
        discardForgetsAReservationNotAnIssue();
        discardRefusals();
        quarantine();
        quarantineCountsStoredAndReserved();
        Check.finish();
    }

    private static void giveBack() {
        TypedBlood x = new TypedBlood();
        int p = Check.confirmed(x, Check.O, 0);
        int u = Check.plasma(x, 0);
        x.pass(40);
        x.issue(p, u);
        Check.same("at once", x.giveBack(u), 0);
        Check.same("state", x.of(u, 0), 0);
        Check.same("to nobody", x.of(u, 6), Check.NONE);
        x.issue(p, u);
        x.pass(29);
        Check.same("within 30 minutes", x.giveBack(u), 29);
        x.issue(p, u);
        x.pass(30);
        Check.fails("after 30 minutes", Check.STATE, () -> x.giveBack(u));
        Check.same("state", x.of(u, 0), 2);
        x.pass(50000);
        Check.fails("long after", Check.STATE, () -> x.giveBack(u));
        Check.same("to whom", x.transfused(u), p);
    }

    private static void giveBackWhenExpired() {
        TypedBlood x = new TypedBlood();
        int p = Check.confirmed(x, Check.O, 0);
        int u = x.unit(4, Check.PLASMA, Check.AB, 0, 10);
        x.issue(p, u);
        x.pass(20);
        x.quarantine(4, true);
        Check.same("expired and barred", x.giveBack(u), 20);
        Check.same("state", x.of(u, 0), 0);
        Check.same("not ready", x.stock(Check.PLASMA, Check.NONE, Check.NONE), 0);
    }

    private static void giveBackRefusals() {
        TypedBlood x = new TypedBlood();
        int p = Check.confirmed(x, Check.O, 0);
        int u = Check.plasma(x, 0);
        Check.fails("giveBack", Check.NO_SUCH, () -> x.giveBack(1));
        Check.fails("giveBack", Check.NO_SUCH, () -> x.giveBack(-1));
        Check.fails("stored", Check.STATE, () -> x.giveBack(u));
        x.reserve(p, u);
        Check.fails("reserved", Check.STATE, () -> x.giveBack(u));
        Check.same("still reserved", x.of(u, 0), 1);
        x.issue(p, u);
        x.giveBack(u);
        Check.fails("given back already", Check.STATE, () -> x.giveBack(u));
        x.issue(p, u);
        x.transfused(u);
        Check.fails("transfused", Check.STATE, () -> x.giveBack(u));
        int v = Check.plasma(x, 0);
        x.issue(p, v);
        x.discard(v, 1);
        Check.fails("discarded", Check.STATE, () -> x.giveBack(v));
    }

    private static void transfused() {
        TypedBlood x = new TypedBlood();
        x.patient();
        int p = Check.confirmed(x, Check.O, 0);
        int u = x.unit(0, Check.PLASMA, Check.AB, 0, 10);
        Check.fails("transfused", Check.NO_SUCH, () -> x.transfused(1));
        Check.fails("transfused", Check.NO_SUCH, () -> x.transfused(-1));
        Check.fails("stored", Check.STATE, () -> x.transfused(u));
        x.reserve(p, u);
        Check.fails("reserved", Check.STATE, () -> x.transfused(u));
        x.issue(p, u);
        x.pass(5000);
        Check.same("transfused, expired by now", x.transfused(u), p);
        Check.same("state", x.of(u, 0), 3);
        Check.same("to whom", x.of(u, 6), p);
        Check.fails("transfused already", Check.STATE, () -> x.transfused(u));
    }

    private static void discard() {
        TypedBlood x = new TypedBlood();
        int p = Check.confirmed(x, Check.O, 0);
        for (int i = 0; i < 3; i++) {
            Check.plasma(x, 0);
        }
        x.reserve(p, 1);
        x.issue(p, 2);
        for (int u = 0; u < 3; u++) {
            Check.same("no reason yet", x.of(u, 9), 0);
            Check.same("discard", x.discard(u, u + 1), u);
            Check.same("state", x.of(u, 0), 4);
            Check.same("the reason", x.of(u, 9), u + 1);
        }
        int old = x.unit(1, Check.RED, Check.O, 0, 1);
        x.quarantine(1, true);
        x.pass(1);
        Check.same("expired and barred", x.discard(old, 5), 0);
        Check.same("the reason", x.of(old, 9), 5);
    }

    private static void discardForgetsAReservationNotAnIssue() {
        TypedBlood x = new TypedBlood();
        int p = Check.confirmed(x, Check.O, 0);
        int reserved = Check.plasma(x, 1);
        int issued = Check.plasma(x, 2);
        x.reserve(p, reserved);
        x.issue(p, issued);
        x.discard(reserved, 1);
        x.discard(issued, 1);
        Check.same("reserved no more", x.of(reserved, 6), Check.NONE);
        Check.same("issued and not given back", x.of(issued, 6), p);
        Check.same("received", x.received(p, 0), issued);
        Check.same("received", x.received(p, 1), Check.NONE);
        Check.same("lookback", x.lookback(1, 0), Check.NONE);
        Check.same("lookback", x.lookback(2, 0), p);
        x.pass(4320);
        Check.same("a discarded one is never stored again", x.of(reserved, 0), 4);
    }

    private static void discardRefusals() {
        TypedBlood x = new TypedBlood();
        int p = Check.confirmed(x, Check.O, 0);
        int u = Check.plasma(x, 0);
        Check.fails("discard", Check.NO_SUCH, () -> x.discard(1, 0));
        Check.fails("discard", Check.NO_SUCH, () -> x.discard(-1, 1));
        Check.fails("discard", Check.ARGUMENT, () -> x.discard(u, 0));
        Check.fails("discard", Check.ARGUMENT, () -> x.discard(u, 6));
        int thawed = x.process(u, 3);
        Check.fails("used up", Check.STATE, () -> x.discard(u, 1));
        Check.fails("used up", Check.ARGUMENT, () -> x.discard(u, 6));
        x.issue(p, thawed);
        x.transfused(thawed);
        Check.fails("transfused", Check.STATE, () -> x.discard(thawed, 1));
        int v = Check.plasma(x, 0);
        x.discard(v, 3);
        Check.fails("discarded already", Check.STATE, () -> x.discard(v, 1));
        Check.same("the first reason stays", x.of(v, 9), 3);
    }

    private static void quarantine() {
        TypedBlood x = new TypedBlood();
        for (int donor = 0; donor < 16; donor++) {
            Check.plasma(x, donor);
        }
        for (int donor = 0; donor < 16; donor++) {
            Check.same("on", x.quarantine(donor, true), donor + 1);
            Check.same("on again", x.quarantine(donor, true), donor + 1);
            Check.same("barred", x.of(donor, 7), 1);
        }
        for (int donor = 0; donor < 16; donor++) {
            Check.same("off", x.quarantine(donor, false), 15 - donor);
            Check.same("off again", x.quarantine(donor, false), 15 - donor);
            Check.same("not barred", x.of(donor, 7), 0);
        }
        Check.fails("quarantine", Check.ARGUMENT, () -> x.quarantine(16, true));
        Check.fails("quarantine", Check.ARGUMENT, () -> x.quarantine(-1, true));
        Check.fails("quarantine", Check.ARGUMENT, () -> x.quarantine(32, false));
        Check.same("nobody", x.quarantine(0, false), 0);
        x.quarantine(3, true);
        Check.same("a unit that comes later is barred", x.of(Check.plasma(x, 3), 7), 1);
    }

    private static void quarantineCountsStoredAndReserved() {
        TypedBlood x = new TypedBlood();
        int p = Check.confirmed(x, Check.O, 0);
        for (int i = 0; i < 6; i++) {
            x.unit(1, Check.PLASMA, Check.AB, 0, 100);
        }
        Check.bringIntoEachState(x, p);
        x.pass(100);
        Check.same("stored, reserved and made of one; expired or not", x.quarantine(1, true), 3);
        for (int u = 0; u < 7; u++) {
            Check.same("barred in whatever state", x.of(u, 7), 1);
        }
        Check.same("another donor", x.quarantine(2, true), 3);
    }
}
