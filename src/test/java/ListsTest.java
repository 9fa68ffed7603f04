/** Promises 25 to 30: offer, stock, expiring, lookback, received, count. */
public final class ListsTest {
    private interface Asking {
        int at(int i);
    }

    public static void main(String[] args) {
        offer();
        offerIsOfReadyUnits();
        offerObeysTheRules();
        stock();
        stockIsOfReadyUnits();
        expiring();
        expiringStates();
        lookback();
        lookbackThroughProducts();
        lookbackOrder();
        received();
        count();
        fullLists();
        Check.finish();
    }

    /** The answers of a listing call are these and no more, before, within and behind the list. */
    private static void lists(String what, Asking asking, int... due) {
        for (int i = 0; i < due.length; i++) {
            Check.same(what + " " + i, asking.at(i), due[i]);
        }
        Check.same(what + " behind the end", asking.at(due.length), Check.NONE);
        Check.same(what + " far behind", asking.at(Integer.MAX_VALUE), Check.NONE);
        Check.same(what + " before the start", asking.at(-1), Check.NONE);
        Check.same(what + " far before", asking.at(Integer.MIN_VALUE), Check.NONE);
    }

    private static void offer() {
        TypedBlood x = new TypedBlood();
        int p = Check.confirmed(x, Check.O, 0);
        int[] lives = {300, 100, 200, 100, 300, 50};
        for (int life : lives) {
            x.unit(0, Check.PLASMA, Check.AB, 0, life);
        }
        x.unit(0, Check.PLATELETS, Check.AB, 0, 10);
        x.unit(0, Check.WHOLE, Check.O, 0, 10);
        lists("plasma", i -> x.offer(p, Check.PLASMA, i), 5, 1, 3, 2, 0, 4);
        lists("platelets", i -> x.offer(p, Check.PLATELETS, i), 6);
        lists("red cells", i -> x.offer(p, Check.RED, i));
        lists("whole blood", i -> x.offer(p, Check.WHOLE, i));
        Check.fails("offer", Check.NO_SUCH, () -> x.offer(1, 4, 0));
        Check.fails("offer", Check.NO_SUCH, () -> x.offer(-1, 0, 0));
        Check.fails("offer", Check.ARGUMENT, () -> x.offer(p, 4, 0));
        Check.fails("offer", Check.ARGUMENT, () -> x.offer(p, -1, 0));
    }

    private static void offerIsOfReadyUnits() {
        TypedBlood x = new TypedBlood();
        int p = Check.confirmed(x, Check.O, 0);
        for (int u = 0; u < 7; u++) {
            x.unit(u, Check.PLASMA, Check.AB, 0, u == 0 ? 100 : 1000);
        }
        x.quarantine(1, true);
        x.reserve(p, 2);
        x.issue(p, 3);
        x.discard(4, 1);
        x.process(5, 3);
        x.pass(99);
        lists("offer", i -> x.offer(p, Check.PLASMA, i), 0, 6, 7);
        x.pass(1);
        lists("offer", i -> x.offer(p, Check.PLASMA, i), 6, 7);
        x.quarantine(1, false);
        x.release(2);
        lists("offer", i -> x.offer(p, Check.PLASMA, i), 1, 2, 6, 7);
    }

    private static void offerObeysTheRules() {
        TypedBlood x = new TypedBlood();
        int p = Check.confirmed(x, Check.A, 1);
        for (int group = 0; group < 4; group++) {
            x.unit(0, Check.RED, group, 1, 1000 - group);
        }
        lists("no crossmatch is asked for", i -> x.offer(p, Check.RED, i), 1, 0);
        x.antibody(p, 0);
        lists("antibodies", i -> x.offer(p, Check.RED, i));
        x.antigen(0, 0, 0);
        lists("antibodies", i -> x.offer(p, Check.RED, i), 0);
        x.sample(p, Check.B, 1);
        lists("locked, so without rhesus", i -> x.offer(p, Check.RED, i));
        int u = Check.redCells(x, 0);
        x.antigen(u, 0, 0);
        lists("locked", i -> x.offer(p, Check.RED, i), u);
        x.need(p, 2);
        lists("needs", i -> x.offer(p, Check.RED, i));
    }

    private static void stock() {
        TypedBlood x = new TypedBlood();
        int[][] units = {{0, 1, 1}, {0, 1, 1}, {0, 1, 0}, {0, 2, 1}, {1, 1, 1}, {2, 0, 0}, {3, 3, 1}};
        for (int[] u : units) {
            x.unit(0, u[0], u[1], u[2], 100);
        }
        for (int kind = 0; kind < 4; kind++) {
            for (int group = -1; group < 4; group++) {
                for (int rhesus = -1; rhesus < 2; rhesus++) {
                    int due = 0;
                    for (int[] u : units) {
                        boolean fits = u[0] == kind && (group == -1 || u[1] == group)
                            && (rhesus == -1 || u[2] == rhesus);
                        due += fits ? 1 : 0;
                    }
                    Check.same("stock " + kind + ", " + group + ", " + rhesus, x.stock(kind, group, rhesus), due);
                }
            }
        }
        int[][] wrong = {{4, 0, 0}, {-1, 0, 0}, {0, 4, 0}, {0, -2, 0}, {0, 0, 2}, {0, 0, -2}, {-1, -1, -1}};
        for (int[] w : wrong) {
            Check.fails("stock", Check.ARGUMENT, () -> x.stock(w[0], w[1], w[2]));
        }
    }

    private static void stockIsOfReadyUnits() {
        TypedBlood x = new TypedBlood();
        int p = Check.confirmed(x, Check.O, 0);
        for (int u = 0; u < 5; u++) {
            x.unit(u, Check.PLASMA, Check.AB, 0, u == 0 ? 100 : 1000);
        }
        Check.same("stock", x.stock(Check.PLASMA, Check.AB, 0), 5);
        x.quarantine(1, true);
        Check.same("one barred", x.stock(Check.PLASMA, Check.AB, 0), 4);
        x.reserve(p, 2);
        Check.same("one reserved", x.stock(Check.PLASMA, Check.AB, 0), 3);
        x.issue(p, 3);
        Check.same("one issued", x.stock(Check.PLASMA, Check.AB, 0), 2);
        x.pass(99);
        Check.same("none expired", x.stock(Check.PLASMA, Check.AB, 0), 2);
        x.pass(1);
        Check.same("one expired", x.stock(Check.PLASMA, Check.AB, 0), 1);
    }

    private static void expiring() {
        TypedBlood x = new TypedBlood();
        x.pass(1000);
        int[] lives = {300, 100, 200, 100, 60000};
        for (int i = 0; i < lives.length; i++) {
            x.unit(0, i % 4, Check.A, 1, lives[i]);
        }
        lists("in 0", i -> x.expiring(0, i));
        lists("in 99", i -> x.expiring(99, i));
        lists("in 100", i -> x.expiring(100, i), 1, 3);
        lists("in 299", i -> x.expiring(299, i), 1, 3, 2);
        lists("in 59999", i -> x.expiring(59999, i), 1, 3, 2, 0);
        lists("in 60000", i -> x.expiring(60000, i), 1, 3, 2, 0, 4);
        x.pass(100);
        lists("two are expired", i -> x.expiring(60000, i), 2, 0, 4);
        Check.fails("expiring", Check.ARGUMENT, () -> x.expiring(-1, 0));
        Check.fails("expiring", Check.ARGUMENT, () -> x.expiring(60001, 0));
    }

    private static void expiringStates() {
        TypedBlood x = new TypedBlood();
        int p = Check.confirmed(x, Check.O, 0);
        for (int u = 0; u < 7; u++) {
            x.unit(u, Check.PLASMA, Check.AB, 0, 100);
        }
        x.quarantine(0, true);
        Check.bringIntoEachState(x, p);
        lists("stored or reserved, barred too", i -> x.expiring(100, i), 0, 1, 6, 7);
    }

    private static void lookback() {
        TypedBlood x = new TypedBlood();
        int p = Check.confirmed(x, Check.O, 0);
        int q = Check.confirmed(x, Check.O, 0);
        for (int u = 0; u < 5; u++) {
            Check.plasma(x, u < 4 ? 15 : 0);
        }
        x.reserve(p, 3);
        lists("nobody", i -> x.lookback(15, i));
        x.issue(q, 2);
        x.issue(p, 0);
        x.issue(q, 1);
        x.emergency(q, 4, 3);
        lists("in the order of the first issue", i -> x.lookback(15, i), q, p);
        lists("another donor", i -> x.lookback(0, i), q);
        lists("another donor", i -> x.lookback(1, i));
        x.transfused(2);
        x.discard(0, 1);
        lists("whatever became of it", i -> x.lookback(15, i), q, p);
        x.giveBack(4);
        lists("given back", i -> x.lookback(0, i));
        x.quarantine(15, true);
        x.pass(50000);
        lists("later", i -> x.lookback(15, i), q, p);
        Check.fails("lookback", Check.ARGUMENT, () -> x.lookback(16, 0));
        Check.fails("lookback", Check.ARGUMENT, () -> x.lookback(-1, 0));
        Check.fails("lookback", Check.ARGUMENT, () -> x.lookback(32, 0));
    }

    private static void lookbackThroughProducts() {
        TypedBlood x = new TypedBlood();
        int p = Check.confirmed(x, Check.AB, 1);
        int q = Check.confirmed(x, Check.AB, 1);
        x.unit(3, Check.WHOLE, Check.AB, 1, 1000);
        x.unit(4, Check.WHOLE, Check.AB, 1, 1000);
        x.process(0, 0);
        x.process(1, 0);
        int pooled = x.process(x.pool(4, 7), 2);
        x.issue(q, pooled);
        x.issue(p, x.process(3, 3));
        lists("of the donor of both", i -> x.lookback(3, i), q, p);
        lists("of the donor of one", i -> x.lookback(4, i), q);
        x.giveBack(pooled);
        lists("given back", i -> x.lookback(3, i), p);
        lists("given back", i -> x.lookback(4, i));
    }

    private static void lookbackOrder() {
        TypedBlood x = new TypedBlood();
        int p = Check.confirmed(x, Check.O, 0);
        int q = Check.confirmed(x, Check.O, 0);
        for (int u = 0; u < 4; u++) {
            Check.plasma(x, u == 3 ? 1 : 0);
        }
        x.issue(p, 3);
        x.issue(p, 0);
        x.issue(q, 1);
        lists("lookback", i -> x.lookback(0, i), p, q);
        x.giveBack(0);
        x.issue(p, 2);
        lists("an issue that was given back is no such issue", i -> x.lookback(0, i), q, p);
        x.giveBack(1);
        x.issue(q, 1);
        lists("nor is one by the same unit", i -> x.lookback(0, i), p, q);
        x.giveBack(2);
        x.issue(q, 2);
        lists("the unit went to the other", i -> x.lookback(0, i), q);
    }

    private static void received() {
        TypedBlood x = new TypedBlood();
        int p = Check.confirmed(x, Check.O, 0);
        int q = Check.confirmed(x, Check.O, 0);
        for (int u = 0; u < 6; u++) {
            Check.plasma(x, 0);
        }
        lists("received", i -> x.received(p, i));
        x.issue(p, 4);
        x.emergency(p, 1, 2);
        x.issue(q, 0);
        x.issue(p, 2);
        x.reserve(p, 5);
        lists("in the order of issue", i -> x.received(p, i), 4, 1, 2);
        lists("another's", i -> x.received(q, i), 0);
        x.giveBack(4);
        lists("one given back", i -> x.received(p, i), 1, 2);
        x.issue(p, 4);
        x.transfused(1);
        x.discard(2, 1);
        lists("the latest issue counts", i -> x.received(p, i), 1, 2, 4);
        x.giveBack(4);
        x.issue(q, 4);
        x.pass(50000);
        lists("issued to another then", i -> x.received(p, i), 1, 2);
        lists("another's", i -> x.received(q, i), 0, 4);
        int u = Check.plasma(x, 9);
        x.emergency(q, u, 1);
        x.giveBack(u);
        x.reserve(q, u);
        lists("given back, then only reserved", i -> x.received(q, i), 0, 4);
        lists("given back, then only reserved", i -> x.lookback(9, i));
        Check.fails("received", Check.NO_SUCH, () -> x.received(2, 0));
        Check.fails("received", Check.NO_SUCH, () -> x.received(-1, 0));
    }

    private static void count() {
        TypedBlood x = new TypedBlood();
        int p = Check.confirmed(x, Check.O, 0);
        for (int u = 0; u < 12; u++) {
            x.unit(1, Check.PLASMA, Check.AB, 0, 100);
        }
        x.reserve(p, 0);
        x.reserve(p, 11);
        x.issue(p, 1);
        x.issue(p, 2);
        x.issue(p, 3);
        x.issue(p, 4);
        x.transfused(4);
        x.discard(5, 1);
        x.process(6, 3);
        x.unit(1, Check.WHOLE, Check.AB, 0, 100);
        x.process(13, 0);
        x.quarantine(1, true);
        x.pass(100);
        int[][] due = {{1, 0, 0, 0, 0, 0}, {6, 2, 3, 1, 1, 1}, {1, 0, 0, 0, 0, 0}, {0, 0, 0, 0, 0, 1}};
        for (int kind = 0; kind < 4; kind++) {
            for (int state = 0; state < 6; state++) {
                Check.same("count " + kind + ", " + state, x.count(kind, state), due[kind][state]);
            }
        }
        x.pass(4220);
        Check.same("the reservations are over", x.count(Check.PLASMA, 0), 8);
        Check.same("the reservations are over", x.count(Check.PLASMA, 1), 0);
        int[][] wrong = {{4, 0}, {-1, 0}, {0, 6}, {0, -1}};
        for (int[] w : wrong) {
            Check.fails("count", Check.ARGUMENT, () -> x.count(w[0], w[1]));
        }
    }

    private static void fullLists() {
        TypedBlood x = new TypedBlood();
        int p = Check.confirmed(x, Check.O, 0);
        for (int u = 0; u < 48; u++) {
            x.unit(0, Check.PLASMA, Check.AB, 0, 1000 - u);
        }
        for (int i = 0; i < 48; i++) {
            Check.same("offer", x.offer(p, Check.PLASMA, i), 47 - i);
            Check.same("expiring", x.expiring(1000, i), 47 - i);
        }
        for (int i = 0; i < 48; i++) {
            Check.same("issue", x.issue(p, 47 - i), i + 1);
        }
        for (int i = 0; i < 48; i++) {
            Check.same("received", x.received(p, i), 47 - i);
        }
        TypedBlood y = new TypedBlood();
        for (int q = 0; q < 10; q++) {
            Check.confirmed(y, Check.O, 0);
            y.issue(q, Check.plasma(y, 7));
        }
        lists("ten patients", i -> y.lookback(7, i), 0, 1, 2, 3, 4, 5, 6, 7, 8, 9);
    }
}
