/** The boundaries of what 'Terms' says of time and its spans, of states and quarantine, and of the 512 calls. */
public final class TimeBoundsTest {
    public static void main(String[] args) {
        onlyWaitingMakesTheMinuteGreater();
        minutesAddUpOverAllCalls();
        spansLateInALongRun();
        theLastOfAllCalls();
        aSpanLastsAsLongAsFewerHavePassed();
        inOnePassOrInMany();
        eachReservationHasItsOwnEnd();
        anEndedReservationLeavesAStoredUnit();
        aReservationOutlivesTheExpiry();
        aNewReservationBeginsAnew();
        anIssueEndsTheReservation();
        barredWhileADonorIsInQuarantine();
        objectsShareNothing();
        Check.finish();
    }

    /** "TIME is a minute, 0 at first, that only waiting makes greater." */
    private static void onlyWaitingMakesTheMinuteGreater() {
        Story.begin().answers("at first", 0, x -> x.pass(0)).answers("no wait", 0, x -> x.pass(0) + x.pass(0));
        Story story = Story.begin().then(x -> x.pass(77), x -> x.unit(0, Check.WHOLE, Check.O, 0, 60000),
            x -> x.antigen(0, 0, 0), x -> x.process(0, 0), x -> x.unit(1, Check.PLATELETS, Check.O, 0, 60000),
            x -> x.pool(3, 4), x -> Check.confirmed(x, Check.O, 0), x -> Check.locked(x), x -> x.unlock(1, 0, 0),
            x -> x.antibody(0, 0), x -> x.need(0, 0), x -> x.crossmatch(0, 1, true), x -> x.reserve(0, 1),
            x -> x.release(1), x -> x.issue(0, 1), x -> x.giveBack(1), x -> x.emergency(0, 1, 1), x -> x.transfused(1),
            x -> x.discard(2, 1), x -> x.quarantine(0, true), x -> x.of(0, 0), x -> x.has(0, 0), x -> x.who(0, 0),
            x -> x.why(0, 0), x -> x.offer(0, 0, 0), x -> x.stock(0, 0, 0), x -> x.expiring(60000, 0),
            x -> x.lookback(0, 0), x -> x.received(0, 0), x -> x.count(0, 0));
        story.answers("after every other call", 77, x -> x.pass(0));
        story.refuses("a refused wait", Check.ARGUMENT, x -> x.pass(50001));
    }

    /** "An object is used for at most 512 calls": each of them the longest wait. */
    private static void minutesAddUpOverAllCalls() {
        TypedBlood x = new TypedBlood();
        for (int call = 1; call <= 512; call++) {
            Check.same("pass " + call, x.pass(50000), 50000 * call);
        }
    }

    /** A story of so many longest waits that the next calls are nearly the last ones. */
    private static Story late() {
        return Story.begin().times(480, (x, n) -> x.pass(50000));
    }

    private static void spansLateInALongRun() {
        int now = 480 * 50000;
        Story story = late().then(x -> Check.confirmed(x, Check.O, 0), x -> Check.redCells(x, 0),
            x -> x.crossmatch(0, 0, true));
        story.answers("expiry", now + 60000, x -> x.of(0, 5));
        story.answers("reserve", now + 4320, x -> x.reserve(0, 0));
        story.then(x -> x.pass(4319)).answers("fresh and valid", 1, x -> x.issue(0, 0));
        story.then(x -> x.pass(50000), x -> x.pass(9999)).answers("ready", 1, x -> x.stock(0, 0, 0))
            .answers("expiring", 0, x -> x.expiring(1, 0));
        story.then(x -> x.pass(50000), x -> x.pass(10000)).answers("expired", 0, x -> x.stock(0, 0, 0));
        story.then(x -> x.issue(0, 0), x -> x.pass(29)).answers("given back", 29, x -> x.giveBack(0));
        story.then(x -> x.process(0, 2)).answers("irradiated", now + 20160, x -> x.of(1, 5));
    }

    /** The 512th call of an object answers as the first one does. */
    private static void theLastOfAllCalls() {
        TypedBlood x = new TypedBlood();
        int p = Check.confirmed(x, Check.O, 0);
        for (int u = 0; u < 48; u++) {
            Check.plasma(x, 0);
        }
        for (int n = 0; n < 229; n++) {
            Check.same("issue", x.issue(p, n % 48), 1);
            Check.same("giveBack", x.giveBack(n % 48), 0);
        }
        Check.same("call 510", x.issue(p, 47), 1);
        Check.same("call 511", x.received(p, 0), 47);
        Check.same("call 512", x.lookback(0, 0), p);
    }

    private static Story stored() {
        return Story.begin().then(x -> x.patient(), x -> x.patient(), x -> Check.plasma(x, 3), x -> x.pass(6));
    }

    private static Story reserved() {
        return stored().then(x -> x.reserve(1, 0));
    }

    /** "A reservation lasts 4320 minutes; then the unit is stored." */
    private static void aSpanLastsAsLongAsFewerHavePassed() {
        stored().answers("the minute at which that ends", 4326, x -> x.reserve(1, 0));
        for (int minutes : new int[] {0, 1, 4318, 4319}) {
            reserved().then(x -> x.pass(minutes)).answers("reserved", 1, x -> x.of(0, 0))
                .answers("for whom", 1, x -> x.of(0, 6)).answers("counted", 1, x -> x.count(Check.PLASMA, 1));
        }
        for (int minutes : new int[] {4320, 4321, 50000}) {
            reserved().then(x -> x.pass(minutes)).answers("stored", 0, x -> x.of(0, 0))
                .answers("for nobody", Check.NONE, x -> x.of(0, 6))
                .answers("counted", 0, x -> x.count(Check.PLASMA, 1));
        }
    }

    private static void inOnePassOrInMany() {
        Story waited = reserved().times(73, (x, n) -> x.pass(59)).then(x -> x.pass(12));
        waited.answers("4319 minutes in many", 1, x -> x.of(0, 0));
        waited.then(x -> x.pass(0)).answers("none more", 1, x -> x.of(0, 0));
        waited.then(x -> x.pass(1)).answers("one more", 0, x -> x.of(0, 0));
    }

    private static void eachReservationHasItsOwnEnd() {
        Story story = Story.begin().then(x -> x.patient()).times(48, (x, u) -> Check.plasma(x, 0))
            .times(48, (x, u) -> {
                x.reserve(0, u);
                x.pass(1);
            });
        story.answers("all", 48, x -> x.count(Check.PLASMA, 1));
        story.then(x -> x.pass(4271)).answers("all still", 48, x -> x.count(Check.PLASMA, 1));
        for (int n = 0; n < 48; n++) {
            int over = n + 1;
            story.then(x -> x.pass(4271 + over)).answers("some are over", over, x -> x.count(Check.PLASMA, 0));
        }
    }

    private static void anEndedReservationLeavesAStoredUnit() {
        Story over = reserved().then(x -> x.pass(4320));
        over.takes("antigen", x -> x.antigen(0, 0, 0)).takes("process", x -> x.process(0, 3));
        over.takes("reserve", x -> x.reserve(0, 0)).takes("emergency of another", x -> x.emergency(0, 0, 1));
        over.answers("discard", 0, x -> x.discard(0, 1)).answers("stock", 1, x -> x.stock(Check.PLASMA, Check.AB, 0));
        over.answers("offer", 0, x -> x.offer(0, Check.PLASMA, 0));
        over.refuses("release", Check.STATE, x -> x.release(0));
    }

    private static void aReservationOutlivesTheExpiry() {
        Story story = Story.begin().then(x -> x.patient(), x -> x.unit(0, Check.PLASMA, Check.AB, 0, 100),
            x -> x.reserve(0, 0));
        story.then(x -> x.pass(100)).answers("expired, and reserved", 1, x -> x.of(0, 0));
        story.then(x -> x.pass(4319)).answers("expired, and reserved", 1, x -> x.of(0, 0));
        story.then(x -> x.pass(4320)).answers("expired, and stored", 0, x -> x.of(0, 0));
    }

    private static void aNewReservationBeginsAnew() {
        Story story = reserved().then(x -> x.pass(4000), x -> x.release(0), x -> x.reserve(0, 0));
        story.then(x -> x.pass(4319)).answers("the new one's last minute", 1, x -> x.of(0, 0));
        story.then(x -> x.pass(4320)).answers("over", 0, x -> x.of(0, 0));
    }

    private static void anIssueEndsTheReservation() {
        Story story = reserved().then(x -> x.pass(4319), x -> x.emergency(1, 0, 1));
        story.then(x -> x.pass(1)).answers("issued still", 2, x -> x.of(0, 0)).answers("to whom", 1, x -> x.of(0, 6));
        story.then(x -> x.transfused(0), x -> x.pass(1)).answers("transfused still", 3, x -> x.of(0, 0));
        Story back = story.then(x -> x.giveBack(0));
        back.answers("stored, not reserved", 0, x -> x.of(0, 0)).answers("for nobody", Check.NONE, x -> x.of(0, 6));
    }

    /** "A unit is BARRED while a donor from which it comes is in QUARANTINE". */
    private static void barredWhileADonorIsInQuarantine() {
        Story story = Story.everyState(Check.PLASMA);
        Story barred = story.then(x -> x.quarantine(1, true));
        Story free = barred.then(x -> x.quarantine(1, false));
        for (int n = 0; n < 7; n++) {
            int u = n;
            story.answers("before", 0, x -> x.of(u, 7));
            barred.answers("in whatever state", 1, x -> x.of(u, 7));
            free.answers("after", 0, x -> x.of(u, 7));
        }
        barred.answers("still reserved", 1, x -> x.of(1, 0));
        barred.then(x -> Check.plasma(x, 1)).answers("one that comes later", 1, x -> x.of(7, 7));
        barred.then(x -> Check.plasma(x, 2)).answers("one of another donor", 0, x -> x.of(7, 7));
    }

    private static void objectsShareNothing() {
        TypedBlood one = Story.everyState(Check.RED).then(x -> x.quarantine(4, true)).tell();
        TypedBlood other = new TypedBlood();
        Check.same("the other's minute", other.pass(0), 0);
        Check.same("the other's first unit", other.unit(4, Check.RED, Check.O, 0, 5), 0);
        Check.same("is not barred", other.of(0, 7), 0);
        Check.same("the other's first patient", other.patient(), 0);
        Check.fails("without a crossmatch", Check.UNSUPPORTED, () -> other.reserve(0, 0));
        Check.same("the one's units", one.unit(0, 0, 0, 0, 1), 7);
    }
}
