import java.util.Random;

/**
 * A call that throws changes nothing: of two objects the one gets every call of a run, the other only those that
 * threw nothing; then all that can be asked, and whatever each patient may be given, is the same for both.
 */
public final class UnchangedTest {
    private static final int RUNS = 3000;
    private static final int CALLS = 120;
    private static final int ASKED_UNITS = 12;
    private static final int PATIENTS = 3;

    public static void main(String[] args) {
        int threw = 0;
        for (int run = 0; run < RUNS; run++) {
            threw += checkRun(run);
        }
        Check.same("some calls threw", threw > RUNS ? 1 : 0, 1);
        Check.finish();
    }

    private static int checkRun(int run) {
        Random random = new Random(run);
        TypedBlood all = new TypedBlood();
        TypedBlood some = new TypedBlood();
        int threw = 0;
        for (int i = 0; i < CALLS; i++) {
            int what = random.nextInt(19);
            int[] n = new int[5];
            for (int k = 0; k < n.length; k++) {
                n[k] = random.nextInt(1 << 20);
            }
            String first = answer(all, what, n);
            if (first.startsWith("throws ")) {
                threw++;
            } else {
                Check.same("run " + run + ", call " + i, answer(some, what, n), first);
            }
        }
        Check.same("run " + run + ", what can be asked", asked(all), asked(some));
        Check.same("run " + run + ", what may be given", given(all), given(some));
        return threw;
    }

    private static String answer(TypedBlood x, int what, int[] n) {
        try {
            return String.valueOf(call(x, what, n));
        } catch (RuntimeException e) {
            return "throws " + e.getClass().getName();
        }
    }

    /** A call whose arguments are mostly right, and sometimes just outside. */
    private static int call(TypedBlood x, int what, int[] n) {
        int u = n[0] % (ASKED_UNITS + 1);
        int p = n[1] % (PATIENTS + 1);
        switch (what) {
            case 0:
                return x.pass(n[0] % 4 == 0 ? 4320 : n[0] % 4 == 1 ? 50001 : n[1] % 40);
            case 1:
            case 2:
                return x.unit(n[0] % 17, n[1] % 9 / 2, n[2] % 3 == 0 ? n[3] % 5 : n[1] % 9 / 2 % 2 * 3, n[3] % 9 / 4,
                    n[4] % 8 * 1500);
            case 3:
                x.antigen(u, n[2] % 9, n[3] % 4);
                return 0;
            case 4:
                return x.process(u, n[2] % 5);
            case 5:
                return x.pool(u, n[2] % (ASKED_UNITS + 1));
            case 6:
                return p < PATIENTS ? x.patient() : -1;
            case 7:
                return x.sample(p, n[2] % 9 / 2, n[3] % 9 / 4);
            case 8:
                x.unlock(p, n[2] % 5, n[3] % 3);
                return 0;
            case 9:
                return n[4] % 5 == 0 ? x.antibody(p, n[2] % 9) : x.need(p, n[2] % 7 == 0 ? n[3] % 9 : 0);
            case 10:
                x.crossmatch(p, u, n[2] % 4 != 0);
                return 0;
            case 11:
                return x.reserve(p, u);
            case 12:
                return x.release(u);
            case 13:
                return x.issue(p, u);
            case 14:
                return x.emergency(p, u, n[2] % 4);
            case 15:
                return x.giveBack(u);
            case 16:
                return x.transfused(u);
            case 17:
                return x.discard(u, n[2] % 12);
            default:
                return x.quarantine(n[2] % 17, n[3] % 3 == 0);
        }
    }

    private static String asked(TypedBlood x) {
        StringBuilder text = new StringBuilder();
        for (int u = 0; u < ASKED_UNITS; u++) {
            for (int what = 0; what < 10; what++) {
                int[] n = {u, what};
                text.append(Check.outcome(() -> text.append(x.of(n[0], n[1])))).append(' ');
            }
            for (int a = 0; a < 8; a++) {
                int[] n = {u, a};
                text.append(Check.outcome(() -> text.append(x.has(n[0], n[1])))).append(' ');
            }
        }
        for (int p = 0; p < PATIENTS; p++) {
            for (int what = 0; what < 5; what++) {
                int[] n = {p, what};
                text.append(Check.outcome(() -> text.append(x.who(n[0], n[1])))).append(' ');
            }
            for (int i = 0; i < 4; i++) {
                int[] n = {p, i};
                text.append(Check.outcome(() -> text.append(x.received(n[0], n[1])))).append(' ');
            }
        }
        return text.append(x.pass(0)).append(' ').append(x.quarantine(0, false)).toString();
    }

    private static String given(TypedBlood x) {
        StringBuilder text = new StringBuilder();
        for (int u = 0; u < ASKED_UNITS; u++) {
            for (int p = 0; p < PATIENTS; p++) {
                int[] n = {p, u};
                text.append(Check.outcome(() -> text.append(x.issue(n[0], n[1])))).append(' ');
            }
            int returned = u;
            text.append(Check.outcome(() -> text.append(x.giveBack(returned)))).append(' ');
        }
        for (int donor = 0; donor < 16; donor++) {
            text.append(x.lookback(donor, 0)).append(' ').append(x.lookback(donor, 1)).append(' ');
        }
        return text.append(x.unit(0, 0, 0, 0, 1)).toString();
    }
}
