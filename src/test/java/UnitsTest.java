/** Promises 1 to 4, 21 and 22: a new object, pass, unit, antigen, of, has. */
public final class UnitsTest {
    public static void main(String[] args) {
        newObject();
        pass();
        unit();
        unitRefusals();
        fortyEight();
        antigen();
        antigenRefusals();
        askingRefusals();
        Check.finish();
    }

    private static void newObject() {
        TypedBlood x = new TypedBlood();
        Check.same("the minute", x.pass(0), 0);
        Check.fails("of", Check.NO_SUCH, () -> x.of(0, 0));
        Check.fails("who", Check.NO_SUCH, () -> x.who(0, 0));
        for (int kind = 0; kind < 4; kind++) {
            Check.same("stock", x.stock(kind, Check.NONE, Check.NONE), 0);
            for (int state = 0; state < 6; state++) {
                Check.same("count", x.count(kind, state), 0);
            }
        }
        for (int donor = 0; donor < 16; donor++) {
            Check.same("lookback", x.lookback(donor, 0), Check.NONE);
            Check.same("barred", x.of(Check.plasma(x, donor), 7), 0);
        }
        Check.same("another object shares nothing", new TypedBlood().stock(Check.PLASMA, 3, 0), 0);
    }

    private static void pass() {
        TypedBlood x = new TypedBlood();
        Check.same("pass", x.pass(50000), 50000);
        Check.same("pass", x.pass(1), 50001);
        Check.fails("pass", Check.ARGUMENT, () -> x.pass(50001));
        Check.fails("pass", Check.ARGUMENT, () -> x.pass(-1));
        Check.fails("pass", Check.ARGUMENT, () -> x.pass(Integer.MIN_VALUE));
        Check.fails("pass", Check.ARGUMENT, () -> x.pass(Integer.MAX_VALUE));
        Check.same("pass", x.pass(0), 50001);
        for (int i = 0; i < 500; i++) {
            Check.same("pass", x.pass(50000), 50001 + 50000 * (i + 1));
        }
    }

    private static void unit() {
        TypedBlood x = new TypedBlood();
        x.pass(7);
        int number = 0;
        for (int kind = 0; kind < 4; kind++) {
            for (int group = 0; group < 4; group++) {
                for (int rhesus = 0; rhesus < 2; rhesus++) {
                    Check.same("unit", x.unit(number % 16, kind, group, rhesus, 100 + number), number);
                    int[] due = {0, kind, group, rhesus, 0, 107 + number, Check.NONE, 0, 0, 0};
                    for (int what = 0; what < due.length; what++) {
                        Check.same("of " + what, x.of(number, what), due[what]);
                    }
                    number++;
                }
            }
        }
        for (int a = 0; a < 8; a++) {
            Check.same("has", x.has(31, a), 2);
        }
    }

    private static void unitRefusals() {
        TypedBlood x = new TypedBlood();
        int[][] wrong = {
            {-1, 0, 0, 0, 1}, {16, 0, 0, 0, 1}, {32, 0, 0, 0, 1}, {0, -1, 0, 0, 1}, {0, 4, 0, 0, 1}, {0, 0, -1, 0, 1},
            {0, 0, 4, 0, 1}, {0, 0, 0, -1, 1}, {0, 0, 0, 2, 1}, {0, 0, 0, 0, 0}, {0, 0, 0, 0, -5}, {0, 0, 0, 0, 60001}};
        for (int[] w : wrong) {
            Check.fails("unit", Check.ARGUMENT, () -> x.unit(w[0], w[1], w[2], w[3], w[4]));
        }
        Check.same("the first unit", x.unit(15, 3, 3, 1, 60000), 0);
        Check.same("the second unit", x.unit(0, 0, 0, 0, 1), 1);
        Check.same("expiry", x.of(0, 5), 60000);
        Check.same("expiry", x.of(1, 5), 1);
    }

    private static void fortyEight() {
        TypedBlood x = new TypedBlood();
        for (int u = 0; u < 48; u++) {
            Check.same("unit", x.unit(0, 0, 0, 0, 5), u);
        }
        Check.fails("unit 48", Check.STATE, () -> x.unit(0, 0, 0, 0, 5));
        Check.fails("a wrong unit 48", Check.ARGUMENT, () -> x.unit(16, 0, 0, 0, 5));
        Check.fails("a wrong unit 48", Check.ARGUMENT, () -> x.unit(0, 0, 0, 0, 0));
        x.discard(0, 1);
        Check.fails("a discarded one makes no room", Check.STATE, () -> x.unit(0, 0, 0, 0, 5));
        Check.same("the last one", x.of(47, 0), 0);
        Check.fails("of 48", Check.NO_SUCH, () -> x.of(48, 0));
    }

    private static void antigen() {
        TypedBlood x = new TypedBlood();
        int u = Check.redCells(x, 0);
        int other = Check.redCells(x, 0);
        for (int a = 0; a < 8; a++) {
            for (int v : new int[] {1, 0, 2, 0, 1, 2}) {
                x.antigen(u, a, v);
                Check.same("has " + a, x.has(u, a), v);
            }
            x.antigen(u, a, a % 3);
        }
        for (int a = 0; a < 8; a++) {
            Check.same("has " + a, x.has(u, a), a % 3);
            Check.same("another unit's", x.has(other, a), 2);
        }
    }

    private static void antigenRefusals() {
        TypedBlood x = new TypedBlood();
        int p = Check.confirmed(x, Check.O, 0);
        int u = x.unit(3, Check.PLASMA, Check.AB, 0, 100);
        Check.fails("antigen", Check.NO_SUCH, () -> x.antigen(1, 9, 9));
        Check.fails("antigen", Check.NO_SUCH, () -> x.antigen(-1, 0, 0));
        Check.fails("antigen", Check.ARGUMENT, () -> x.antigen(u, -1, 0));
        Check.fails("antigen", Check.ARGUMENT, () -> x.antigen(u, 8, 0));
        Check.fails("antigen", Check.ARGUMENT, () -> x.antigen(u, 32, 0));
        Check.fails("antigen", Check.ARGUMENT, () -> x.antigen(u, 0, -1));
        Check.fails("antigen", Check.ARGUMENT, () -> x.antigen(u, 0, 3));
        x.reserve(p, u);
        Check.fails("of a reserved one", Check.STATE, () -> x.antigen(u, 0, 0));
        Check.fails("of a reserved one", Check.ARGUMENT, () -> x.antigen(u, 0, 3));
        x.release(u);
        x.quarantine(3, true);
        x.antigen(u, 0, 1);
        x.pass(100);
        x.antigen(u, 1, 0);
        Check.same("a barred one's", x.has(u, 0), 1);
        Check.same("an expired one's", x.has(u, 1), 0);
        x.discard(u, 1);
        Check.fails("of a discarded one", Check.STATE, () -> x.antigen(u, 0, 0));
        Check.same("has", x.has(u, 0), 1);
    }

    private static void askingRefusals() {
        TypedBlood x = new TypedBlood();
        Check.redCells(x, 0);
        Check.fails("of", Check.NO_SUCH, () -> x.of(1, 0));
        Check.fails("of", Check.NO_SUCH, () -> x.of(-1, -1));
        Check.fails("of", Check.NO_SUCH, () -> x.of(48, 10));
        Check.fails("of", Check.INDEX, () -> x.of(0, -1));
        Check.fails("of", Check.INDEX, () -> x.of(0, 10));
        Check.fails("has", Check.NO_SUCH, () -> x.has(1, 0));
        Check.fails("has", Check.NO_SUCH, () -> x.has(-1, 8));
        Check.fails("has", Check.INDEX, () -> x.has(0, -1));
        Check.fails("has", Check.INDEX, () -> x.has(0, 8));
    }
}
