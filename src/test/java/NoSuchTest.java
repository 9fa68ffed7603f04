/**
 * "NoSuchElementException when there is no such unit", "... no such patient", "... no such patient or unit": each call
 * that takes a number, with the empty store, with a few, and with the full store.
 */
public final class NoSuchTest {
    public static void main(String[] args) {
        unitNumbers();
        patientNumbers();
        otherUnitOfAPool();
        numbersThatWereRefusedStayFree();
        Check.finish();
    }

    /** Each call that takes the number of a unit; patient 0 is there. */
    private static final Story.NumberStep[] UNIT_CALLS = {
        (x, u) -> x.antigen(u, 0, 0), (x, u) -> x.process(u, 0), (x, u) -> x.pool(u, u),
        (x, u) -> x.crossmatch(0, u, true), (x, u) -> x.reserve(0, u), (x, u) -> x.release(u),
        (x, u) -> x.issue(0, u), (x, u) -> x.emergency(0, u, 1), (x, u) -> x.giveBack(u), (x, u) -> x.transfused(u),
        (x, u) -> x.discard(u, 1), (x, u) -> x.of(u, 0), (x, u) -> x.has(u, 0), (x, u) -> x.why(0, u)};

    /** Each call that takes the number of a patient; unit 0 is there. */
    private static final Story.NumberStep[] PATIENT_CALLS = {
        (x, p) -> x.sample(p, 0, 0), (x, p) -> x.unlock(p, 0, 0), (x, p) -> x.antibody(p, 0), (x, p) -> x.need(p, 0),
        (x, p) -> x.crossmatch(p, 0, true), (x, p) -> x.reserve(p, 0), (x, p) -> x.issue(p, 0),
        (x, p) -> x.emergency(p, 0, 1), (x, p) -> x.who(p, 0), (x, p) -> x.why(p, 0), (x, p) -> x.offer(p, 0, 0),
        (x, p) -> x.received(p, 0)};

    private static void unitNumbers() {
        for (int count : new int[] {0, 1, 2, 48}) {
            Story story = Story.begin().then(x -> x.patient()).times(count, (x, u) -> Check.redCells(x, 0));
            for (int call = 0; call < UNIT_CALLS.length; call++) {
                checkNumbers("unit call " + call + " with " + count + " units", story, UNIT_CALLS[call], count, 48);
            }
        }
    }

    private static void patientNumbers() {
        for (int count : new int[] {0, 1, 2, 10}) {
            Story story = Story.begin().then(x -> Check.redCells(x, 0)).times(count, (x, p) -> x.patient());
            for (int call = 0; call < PATIENT_CALLS.length; call++) {
                checkNumbers("patient call " + call + " with " + count, story, PATIENT_CALLS[call], count, 10);
            }
        }
    }

    private static void checkNumbers(String what, Story story, Story.NumberStep call, int count, int most) {
        for (int n : new int[] {-1, count, most, Integer.MIN_VALUE, Integer.MAX_VALUE}) {
            story.refuses(what + ", number " + n, Check.NO_SUCH, x -> call.on(x, n));
        }
        for (int n : new int[] {0, count - 1}) {
            TypedBlood x = story.tell();
            String outcome = Check.outcome(() -> call.on(x, n));
            Check.same(what + " knows " + n, outcome.equals(Check.NO_SUCH.getName()) ? 1 : 0, count == 0 ? 1 : 0);
        }
    }

    private static void otherUnitOfAPool() {
        Story story = Story.begin().times(2, (x, u) -> x.unit(u, Check.PLATELETS, Check.A, 0, 100));
        story.answers("pool", 2, x -> x.pool(0, 1)).answers("pool", 2, x -> x.pool(1, 0));
        for (int n : new int[] {-1, 2, 48, Integer.MIN_VALUE, Integer.MAX_VALUE}) {
            story.refuses("pool with " + n, Check.NO_SUCH, x -> x.pool(0, n));
            story.refuses("pool of " + n, Check.NO_SUCH, x -> x.pool(n, 0));
        }
    }

    private static void numbersThatWereRefusedStayFree() {
        Story story = Story.begin().then(x -> Check.outcome(() -> x.of(0, 0)), x -> Check.outcome(() -> x.who(0, 0)));
        story.answers("the first unit", 0, x -> Check.redCells(x, 0)).answers("the first patient", 0, x -> x.patient());
    }
}
