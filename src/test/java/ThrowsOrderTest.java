/**
 * "Of several exceptions the one that stands first in the throws clause is thrown": for each call, whatever pairs of
 * refusals can meet, with all as it was before.
 */
public final class ThrowsOrderTest {
    private static final int FAR = Integer.MAX_VALUE;

    public static void main(String[] args) {
        unit();
        antigen();
        process();
        processWithoutRoom();
        pool();
        poolWithoutRoom();
        sampleAndUnlock();
        antibodyAndNeed();
        crossmatch();
        reserve();
        issue();
        emergency();
        discard();
        asking();
        Check.finish();
    }

    private static void unit() {
        Story full = Story.begin().times(48, (x, u) -> Check.plasma(x, 0));
        full.refuses("no donor, no room", Check.ARGUMENT, x -> x.unit(16, 0, 0, 0, 1));
        full.refuses("no kind, no room", Check.ARGUMENT, x -> x.unit(0, 4, 0, 0, 1));
        full.refuses("no group, no room", Check.ARGUMENT, x -> x.unit(0, 0, 4, 0, 1));
        full.refuses("no rhesus, no room", Check.ARGUMENT, x -> x.unit(0, 0, 0, 2, 1));
        full.refuses("no life, no room", Check.ARGUMENT, x -> x.unit(0, 0, 0, 0, 0));
        full.refuses("too long a life, no room", Check.ARGUMENT, x -> x.unit(0, 0, 0, 0, 60001));
    }

    private static void antigen() {
        Story story = Story.everyState(Check.PLASMA);
        story.refuses("no unit, no antigen", Check.NO_SUCH, x -> x.antigen(7, 8, 0));
        story.refuses("no unit, no value", Check.NO_SUCH, x -> x.antigen(-1, 0, 3));
        for (int state = 1; state < 6; state++) {
            int u = state;
            story.refuses("no antigen, not stored", Check.ARGUMENT, x -> x.antigen(u, 8, 0));
            story.refuses("no antigen, not stored", Check.ARGUMENT, x -> x.antigen(u, -1, 0));
            story.refuses("no value, not stored", Check.ARGUMENT, x -> x.antigen(u, 0, 3));
            story.refuses("no value, not stored", Check.ARGUMENT, x -> x.antigen(u, 0, -1));
        }
    }

    private static void process() {
        Story story = Story.everyState(Check.PLASMA);
        story.refuses("no unit, no how", Check.NO_SUCH, x -> x.process(7, 4));
        story.refuses("no unit, no how", Check.NO_SUCH, x -> x.process(-1, -1));
        for (int state = 1; state < 6; state++) {
            int u = state;
            story.refuses("no how, not ready", Check.ARGUMENT, x -> x.process(u, 4));
            story.refuses("no how, not ready", Check.ARGUMENT, x -> x.process(u, -1));
            story.refuses("not ready, not for its kind", Check.STATE, x -> x.process(u, 1));
            story.refuses("not ready, not for its kind", Check.STATE, x -> x.process(u, 0));
        }
        story.then(x -> x.quarantine(1, true)).refuses("no how, barred", Check.ARGUMENT, x -> x.process(0, 4))
            .refuses("barred, not for its kind", Check.STATE, x -> x.process(0, 2));
        story.then(x -> x.pass(20000)).refuses("no how, expired", Check.ARGUMENT, x -> x.process(0, 4))
            .refuses("expired, not for its kind", Check.STATE, x -> x.process(0, 2));
    }

    private static void processWithoutRoom() {
        Story full = Story.begin().times(48, (x, u) -> Check.plasma(x, 0));
        full.refuses("no unit, no room", Check.NO_SUCH, x -> x.process(48, 3));
        full.refuses("no how, no room", Check.ARGUMENT, x -> x.process(0, 4));
        full.refuses("no room, not for its kind", Check.STATE, x -> x.process(0, 1));
        for (int count = 45; count < 48; count++) {
            Story story = Story.begin().times(count, (x, u) -> Check.plasma(x, 0));
            story.refuses("not for its kind, with room for one", Check.UNSUPPORTED, x -> x.process(0, 1));
            Class<?> due = count == 45 ? Check.UNSUPPORTED : Check.STATE;
            story.refuses("a split of plasma with " + count, due, x -> x.process(0, 0));
        }
    }

    private static void pool() {
        Story story = Story.everyState(Check.PLASMA).then(x -> x.unit(2, Check.PLATELETS, Check.A, 0, 30000));
        story.refuses("no unit twice", Check.NO_SUCH, x -> x.pool(8, 8));
        story.refuses("no unit twice", Check.NO_SUCH, x -> x.pool(FAR, FAR));
        story.refuses("no unit, and one that is no platelets", Check.NO_SUCH, x -> x.pool(0, 8));
        story.refuses("one not ready, and no unit", Check.NO_SUCH, x -> x.pool(4, -1));
        story.refuses("the same, no platelets", Check.ARGUMENT, x -> x.pool(0, 0));
        for (int state = 1; state < 6; state++) {
            int u = state;
            story.refuses("the same, not ready", Check.ARGUMENT, x -> x.pool(u, u));
            story.refuses("not ready, no platelets", Check.STATE, x -> x.pool(u, 7));
            story.refuses("not ready, no platelets", Check.STATE, x -> x.pool(7, u));
        }
        Story barred = story.then(x -> x.quarantine(2, true));
        barred.refuses("barred, and no platelets", Check.STATE, x -> x.pool(0, 7));
        barred.refuses("the same, barred", Check.ARGUMENT, x -> x.pool(7, 7));
        Story expired = story.then(x -> x.pass(20000));
        expired.refuses("expired, and no platelets", Check.STATE, x -> x.pool(0, 7));
        expired.refuses("the same, expired", Check.ARGUMENT, x -> x.pool(0, 0));
    }

    private static void poolWithoutRoom() {
        Story full = Story.begin().times(48, (x, u) -> x.unit(0, Check.PLATELETS, u / 24, u % 2, 100));
        full.refuses("no unit, no room", Check.NO_SUCH, x -> x.pool(0, 48));
        full.refuses("the same, no room", Check.ARGUMENT, x -> x.pool(0, 0));
        full.refuses("no room, another group", Check.STATE, x -> x.pool(0, 24));
        full.refuses("no room, another rhesus", Check.STATE, x -> x.pool(0, 1));
    }

    private static void sampleAndUnlock() {
        Story story = Story.begin().then(x -> Check.locked(x), x -> Check.confirmed(x, Check.A, 1), x -> x.pass(5));
        int[][] wrong = {{-1, 0}, {4, 0}, {0, -1}, {0, 2}, {FAR, FAR}};
        for (int[] w : wrong) {
            story.refuses("no patient, no sample", Check.NO_SUCH, x -> x.sample(2, w[0], w[1]));
            story.refuses("no patient, no unlocking", Check.NO_SUCH, x -> x.unlock(2, w[0], w[1]));
            story.refuses("no sample, locked", Check.ARGUMENT, x -> x.sample(0, w[0], w[1]));
            story.refuses("no unlocking, not locked", Check.ARGUMENT, x -> x.unlock(1, w[0], w[1]));
        }
    }

    private static void antibodyAndNeed() {
        Story story = Story.begin().then(x -> x.patient());
        for (int n : new int[] {-1, 8, Integer.MIN_VALUE, FAR}) {
            story.refuses("no patient, no antigen", Check.NO_SUCH, x -> x.antibody(1, n));
            story.refuses("no patient, no marks", Check.NO_SUCH, x -> x.need(1, n));
        }
    }

    private static void crossmatch() {
        Story story = Story.everyState(Check.PLASMA);
        story.refuses("no patient, no red cells", Check.NO_SUCH, x -> x.crossmatch(2, 0, true));
        for (int state = 2; state < 6; state++) {
            int u = state;
            story.refuses("no patient, not stored", Check.NO_SUCH, x -> x.crossmatch(2, u, true));
            story.refuses("not stored, no red cells", Check.STATE, x -> x.crossmatch(0, u, true));
        }
        Story whole = Story.begin().then(x -> x.patient(), x -> x.unit(0, Check.WHOLE, Check.O, 0, 5));
        whole.then(x -> x.discard(0, 1)).refuses("discarded whole blood", Check.STATE, x -> x.crossmatch(0, 0, true));
    }

    /** Whole blood, red cells and plasma, all of donor 1; patient 0 is confirmed, patient 1 locked. */
    private static Story forbidden() {
        return Story.begin().then(x -> Check.confirmed(x, Check.AB, 0), x -> Check.locked(x),
            x -> x.unit(1, Check.WHOLE, Check.O, 0, 100), x -> x.unit(1, Check.RED, Check.O, 0, 100),
            x -> x.unit(1, Check.PLASMA, Check.O, 0, 100), x -> x.pass(5));
    }

    private static void reserve() {
        for (int n = 0; n < 3; n++) {
            int u = n;
            Story story = forbidden();
            story.refuses("no patient, forbidden", Check.NO_SUCH, x -> x.reserve(2, u));
            story.refuses("forbidden", Check.UNSUPPORTED, x -> x.reserve(0, u));
            story.refuses("locked, forbidden", Check.STATE, x -> x.reserve(1, u));
            story.refuses("locked, no unit", Check.NO_SUCH, x -> x.reserve(1, 3));
            for (Story hindered : hindrances(story, u)) {
                hindered.refuses("not ready, forbidden", Check.STATE, x -> x.reserve(0, u));
                hindered.refuses("no patient, not ready", Check.NO_SUCH, x -> x.reserve(-1, u));
            }
        }
    }

    /** The story with the unit barred, expired, and discarded. */
    private static Story[] hindrances(Story story, int u) {
        return new Story[] {story.then(x -> x.quarantine(1, true)), story.then(x -> x.pass(95)),
            story.then(x -> x.discard(u, 1))};
    }

    private static void issue() {
        for (int n = 0; n < 3; n++) {
            int u = n;
            Story story = forbidden();
            story.refuses("no patient, forbidden", Check.NO_SUCH, x -> x.issue(2, u));
            story.refuses("forbidden", Check.UNSUPPORTED, x -> x.issue(0, u));
            story.refuses("locked, forbidden", Check.STATE, x -> x.issue(1, u));
            story.refuses("locked, no unit", Check.NO_SUCH, x -> x.issue(1, 3));
            story.then(x -> x.patient()).refuses("no sample, forbidden", Check.STATE, x -> x.issue(2, u));
            for (Story hindered : hindrances(story, u)) {
                hindered.refuses("it may not leave, forbidden", Check.STATE, x -> x.issue(0, u));
                hindered.refuses("no patient, it may not leave", Check.NO_SUCH, x -> x.issue(-1, u));
            }
        }
        Story old = Story.begin().then(x -> Check.confirmed(x, Check.AB, 0), x -> x.unit(0, Check.RED, 0, 0, 60000),
            x -> x.pass(4320));
        old.refuses("no fresh sample, no crossmatch", Check.STATE, x -> x.issue(0, 0));
        Story reserved = Story.everyState(Check.PLASMA).then(x -> x.sample(1, Check.O, 0), x -> x.need(1, 7));
        reserved.refuses("reserved for another, needs", Check.STATE, x -> x.issue(1, 1));
    }

    private static void emergency() {
        for (int n = 0; n < 3; n++) {
            int u = n;
            Story story = forbidden().then(x -> x.need(0, 7));
            for (int doctor : new int[] {0, 1000, Integer.MIN_VALUE, FAR}) {
                story.refuses("no patient, no doctor", Check.NO_SUCH, x -> x.emergency(2, u, doctor));
                story.refuses("no unit, no doctor", Check.NO_SUCH, x -> x.emergency(0, 3, doctor));
                story.refuses("no doctor, forbidden", Check.ARGUMENT, x -> x.emergency(0, u, doctor));
                story.refuses("no doctor, locked", Check.ARGUMENT, x -> x.emergency(1, u, doctor));
                story.then(x -> x.discard(u, 1))
                    .refuses("no doctor, discarded", Check.ARGUMENT, x -> x.emergency(0, u, doctor));
            }
            story.refuses("no patient, forbidden", Check.NO_SUCH, x -> x.emergency(-1, u, 1));
            story.refuses("locked, forbidden", Check.STATE, x -> x.emergency(1, u, 1));
            for (Story hindered : hindrances(story, u)) {
                hindered.refuses("it may not leave, forbidden", Check.STATE, x -> x.emergency(0, u, 1));
            }
        }
        Story reserved = Story.everyState(Check.PLASMA).then(x -> x.need(1, 7));
        reserved.refuses("reserved for another, needs", Check.STATE, x -> x.emergency(1, 1, 1));
    }

    private static void discard() {
        Story story = Story.everyState(Check.PLASMA);
        for (int reason : new int[] {0, 6, Integer.MIN_VALUE, FAR}) {
            story.refuses("no unit, no reason", Check.NO_SUCH, x -> x.discard(7, reason));
            for (int state = 3; state < 6; state++) {
                int u = state;
                story.refuses("no reason, gone already", Check.ARGUMENT, x -> x.discard(u, reason));
            }
        }
    }

    private static void asking() {
        Story story = Story.everyState(Check.PLASMA);
        for (int n : new int[] {-1, 10, Integer.MIN_VALUE, FAR}) {
            story.refuses("of: no unit, no what", Check.NO_SUCH, x -> x.of(7, n));
            story.refuses("has: no unit, no antigen", Check.NO_SUCH, x -> x.has(7, n));
            story.refuses("who: no patient, no what", Check.NO_SUCH, x -> x.who(2, n));
            story.refuses("offer: no patient, no kind", Check.NO_SUCH, x -> x.offer(2, n, 0));
        }
    }
}
