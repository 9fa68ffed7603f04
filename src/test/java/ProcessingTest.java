/** Promises 5 and 6: process and pool. */
public final class ProcessingTest {
    public static void main(String[] args) {
        splitting();
        splittingOldBlood();
        oneProduct();
        earlierExpiryStays();
        kindsThatSuit();
        processRefusals();
        roomForProducts();
        pooling();
        pooledAntigens();
        pooledMarks();
        poolRefusals();
        poolNeedsRoom();
        Check.finish();
    }

    private static void splitting() {
        TypedBlood x = new TypedBlood();
        x.pass(10);
        Check.plasma(x, 0);
        int u = x.unit(5, Check.WHOLE, Check.B, 1, 50000);
        x.antigen(u, 2, 0);
        x.antigen(u, 6, 1);
        x.pass(5);
        Check.same("process", x.process(u, 0), 2);
        Check.same("the source", x.of(u, 0), 5);
        int[] kinds = {Check.RED, Check.PLASMA, Check.PLATELETS};
        int[] expiries = {50010, 50010, 7215};
        for (int i = 0; i < 3; i++) {
            int[] due = {0, kinds[i], Check.B, 1, 0, expiries[i], Check.NONE, 0, 0, 0};
            for (int what = 0; what < due.length; what++) {
                Check.same("of product " + i + ", " + what, x.of(2 + i, what), due[what]);
            }
            Check.same("has", x.has(2 + i, 2), 0);
            Check.same("has", x.has(2 + i, 6), 1);
            Check.same("has", x.has(2 + i, 0), 2);
        }
        Check.same("three are barred with their donor, not the used up one", x.quarantine(5, true), 3);
        Check.same("of a used up one", x.of(u, 7), 1);
        Check.same("the next number", Check.plasma(x, 0), 5);
    }

    private static void splittingOldBlood() {
        TypedBlood x = new TypedBlood();
        x.unit(0, Check.WHOLE, Check.O, 0, 7199);
        x.process(0, 0);
        Check.same("platelets that expire before their limit", x.of(3, 5), 7199);
        x.unit(0, Check.WHOLE, Check.O, 0, 7201);
        x.process(4, 0);
        Check.same("platelets at their limit", x.of(7, 5), 7200);
        Check.same("plasma without a limit", x.of(6, 5), 7201);
    }

    private static void oneProduct() {
        int[][] ways = {{1, Check.RED, 1, 1440}, {2, Check.RED, 2, 20160}, {2, Check.PLATELETS, 2, 20160},
            {3, Check.PLASMA, 4, 1440}};
        for (int[] way : ways) {
            TypedBlood x = new TypedBlood();
            int u = x.unit(9, way[1], Check.A, 1, 60000);
            x.antigen(u, 0, 1);
            x.antigen(u, 7, 0);
            x.pass(100);
            Check.same("process", x.process(u, way[0]), 1);
            int[] due = {0, way[1], Check.A, 1, way[2], 100 + way[3], Check.NONE, 0, 0, 0};
            for (int what = 0; what < due.length; what++) {
                Check.same("how " + way[0] + ", of " + what, x.of(1, what), due[what]);
            }
            Check.same("has", x.has(1, 0), 1);
            Check.same("has", x.has(1, 7), 0);
            Check.same("has", x.has(1, 3), 2);
            Check.same("the source", x.of(u, 0), 5);
            Check.same("barred", x.quarantine(9, true), 1);
            x.quarantine(9, false);
            Check.same("again", x.process(1, way[0]), 2);
            Check.same("the mark stays", x.of(2, 4), way[2]);
        }
    }

    private static void earlierExpiryStays() {
        TypedBlood x = new TypedBlood();
        Check.redCells(x, 0);
        x.process(0, 2);
        x.process(1, 1);
        Check.same("both marks", x.of(2, 4), 3);
        Check.same("the nearer limit", x.of(2, 5), 1440);
        x.pass(40);
        x.process(2, 2);
        Check.same("the earlier expiry", x.of(3, 5), 1440);
        Check.same("both marks", x.of(3, 4), 3);
    }

    private static void kindsThatSuit() {
        boolean[][] suits = {
            {false, false, false, true}, {true, false, false, false}, {true, false, true, false},
            {false, true, false, false}};
        for (int how = 0; how < 4; how++) {
            for (int kind = 0; kind < 4; kind++) {
                TypedBlood x = new TypedBlood();
                x.unit(0, kind, Check.O, 0, 100);
                int h = how;
                String want = suits[how][kind] ? "done" : Check.UNSUPPORTED.getName();
                Check.same("how " + how + " of kind " + kind, Check.outcome(() -> x.process(0, h)), want);
                Check.same("the source", x.of(0, 0), suits[how][kind] ? 5 : 0);
            }
        }
    }

    private static void processRefusals() {
        TypedBlood x = new TypedBlood();
        int p = Check.confirmed(x, Check.O, 0);
        int u = x.unit(4, Check.PLASMA, Check.AB, 0, 100);
        Check.fails("process", Check.NO_SUCH, () -> x.process(1, 0));
        Check.fails("process", Check.NO_SUCH, () -> x.process(-1, 4));
        Check.fails("process", Check.ARGUMENT, () -> x.process(u, 4));
        Check.fails("process", Check.ARGUMENT, () -> x.process(u, -1));
        x.reserve(p, u);
        Check.fails("a reserved one", Check.STATE, () -> x.process(u, 3));
        Check.fails("a reserved one, not for its kind", Check.STATE, () -> x.process(u, 1));
        Check.fails("a reserved one", Check.ARGUMENT, () -> x.process(u, 4));
        x.release(u);
        x.quarantine(4, true);
        Check.fails("a barred one", Check.STATE, () -> x.process(u, 3));
        x.quarantine(4, false);
        x.pass(99);
        Check.same("the last minute", x.process(u, 3), 1);
        Check.fails("a used up one", Check.STATE, () -> x.process(u, 3));
        x.pass(1);
        Check.fails("an expired one", Check.STATE, () -> x.process(1, 3));
        Check.fails("no third unit", Check.NO_SUCH, () -> x.of(2, 0));
    }

    private static void roomForProducts() {
        TypedBlood x = new TypedBlood();
        for (int u = 0; u < 45; u++) {
            x.unit(0, u < 2 ? Check.WHOLE : Check.RED, Check.O, 0, 100);
        }
        Check.same("splitting as the last three", x.process(0, 0), 45);
        Check.fails("washing as the 49th", Check.STATE, () -> x.process(2, 1));
        Check.fails("what does not suit, as the 49th", Check.STATE, () -> x.process(2, 3));
        Check.same("still stored", x.of(2, 0), 0);

        TypedBlood y = new TypedBlood();
        for (int u = 0; u < 46; u++) {
            y.unit(0, u < 2 ? Check.WHOLE : Check.RED, Check.O, 0, 100);
        }
        Check.fails("splitting to 49", Check.STATE, () -> y.process(0, 0));
        Check.same("still stored", y.of(0, 0), 0);
        Check.same("the 47th", y.process(2, 1), 46);
        Check.same("the 48th", y.process(3, 2), 47);
        Check.fails("the 49th", Check.STATE, () -> y.process(4, 2));
    }

    private static void pooling() {
        TypedBlood x = new TypedBlood();
        x.unit(1, Check.PLATELETS, Check.B, 1, 5000);
        x.unit(2, Check.PLATELETS, Check.B, 1, 4000);
        x.pass(100);
        Check.same("pool", x.pool(0, 1), 2);
        int[] due = {0, Check.PLATELETS, Check.B, 1, 0, 4000, Check.NONE, 0, 0, 0};
        for (int what = 0; what < due.length; what++) {
            Check.same("of " + what, x.of(2, what), due[what]);
        }
        Check.same("used up", x.of(0, 0), 5);
        Check.same("used up", x.of(1, 0), 5);
        x.unit(3, Check.PLATELETS, Check.B, 1, 3000);
        Check.same("pool with what was pooled", x.pool(3, 2), 4);
        Check.same("the earlier expiry", x.of(4, 5), 3100);
        for (int donor = 0; donor < 5; donor++) {
            int barred = donor >= 1 && donor <= 3 ? 1 : 0;
            Check.same("barred by " + donor, x.quarantine(donor, true), barred);
            Check.same("barred", x.of(4, 7), barred);
            x.quarantine(donor, false);
        }
    }

    private static void pooledAntigens() {
        TypedBlood x = new TypedBlood();
        int[] pooled = {0, 1, 2, 1, 1, 1, 2, 1, 2};
        for (int pair = 0; pair < 9; pair++) {
            int u = x.unit(0, Check.PLATELETS, Check.O, 0, 100);
            int v = x.unit(0, Check.PLATELETS, Check.O, 0, 100);
            x.antigen(u, 3, pair / 3);
            x.antigen(v, 3, pair % 3);
            int w = x.pool(u, v);
            Check.same("antigens " + pair / 3 + " and " + pair % 3, x.has(w, 3), pooled[pair]);
            Check.same("another antigen", x.has(w, 4), 2);
        }
    }

    private static void pooledMarks() {
        TypedBlood x = new TypedBlood();
        for (int u = 0; u < 4; u++) {
            x.unit(0, Check.PLATELETS, Check.O, 0, 100);
        }
        int one = x.process(0, 2);
        int other = x.process(1, 2);
        Check.same("both irradiated", x.of(x.pool(one, other), 4), 2);
        int third = x.process(2, 2);
        Check.same("one irradiated", x.of(x.pool(third, 3), 4), 0);
    }

    private static void poolRefusals() {
        TypedBlood x = new TypedBlood();
        int u = x.unit(1, Check.PLATELETS, Check.A, 0, 100);
        int v = x.unit(2, Check.PLATELETS, Check.A, 0, 50);
        int group = x.unit(2, Check.PLATELETS, Check.B, 0, 100);
        int rhesus = x.unit(2, Check.PLATELETS, Check.A, 1, 100);
        int kind = x.unit(2, Check.PLASMA, Check.A, 0, 100);
        Check.fails("pool", Check.NO_SUCH, () -> x.pool(5, 5));
        Check.fails("pool", Check.NO_SUCH, () -> x.pool(u, 5));
        Check.fails("pool", Check.NO_SUCH, () -> x.pool(-1, u));
        Check.fails("pool with itself", Check.ARGUMENT, () -> x.pool(u, u));
        Check.fails("plasma with itself", Check.ARGUMENT, () -> x.pool(kind, kind));
        Check.fails("two groups", Check.UNSUPPORTED, () -> x.pool(u, group));
        Check.fails("with and without rhesus", Check.UNSUPPORTED, () -> x.pool(rhesus, u));
        Check.fails("plasma", Check.UNSUPPORTED, () -> x.pool(u, kind));
        Check.fails("plasma", Check.UNSUPPORTED, () -> x.pool(kind, u));
        int another = x.unit(2, Check.PLASMA, Check.A, 0, 100);
        Check.fails("plasma twice", Check.UNSUPPORTED, () -> x.pool(kind, another));
        x.quarantine(1, true);
        Check.fails("a barred one", Check.STATE, () -> x.pool(u, v));
        Check.fails("a barred one, of two groups", Check.STATE, () -> x.pool(group, u));
        x.quarantine(1, false);
        x.pass(50);
        Check.fails("an expired one", Check.STATE, () -> x.pool(u, v));
        Check.fails("an expired one", Check.STATE, () -> x.pool(v, u));
        x.discard(v, 1);
        Check.fails("a discarded one with itself", Check.ARGUMENT, () -> x.pool(v, v));
        Check.same("still stored", x.of(u, 0), 0);
        Check.fails("no new unit", Check.NO_SUCH, () -> x.of(6, 0));
    }

    private static void poolNeedsRoom() {
        TypedBlood x = new TypedBlood();
        for (int u = 0; u < 47; u++) {
            x.unit(0, Check.PLATELETS, u < 10 ? Check.A : Check.B, 0, 100);
        }
        Check.same("the 48th", x.pool(0, 1), 47);
        Check.fails("the 49th", Check.STATE, () -> x.pool(2, 3));
        Check.fails("the 49th, of two groups", Check.STATE, () -> x.pool(2, 20));
    }
}
