/** The boundaries of promises 17 to 20: giveBack, transfused, discard, quarantine. */
public final class AfterIssueBoundsTest {
    public static void main(String[] args) {
        onlyAnIssuedUnitComesBack();
        withinThirtyMinutes();
        thirtyMinutesOfTheLatestIssue();
        itIsStoredExpiredOrNot();
        onlyAnIssuedUnitIsTransfused();
        noLimitOfTimeForATransfusion();
        reasonsOfADiscard();
        onlyStoredReservedOrIssuedOnesAreDiscarded();
        aDiscardedUnitStaysDiscarded();
        donorsOfAQuarantine();
        quarantineOnAndOffTwice();
        howManyAreBarred();
        allAreBarred();
        aUnitOfTwoDonorsCountsOnce();
        Check.finish();
    }

    /** "IllegalStateException when it is not issued". */
    private static void onlyAnIssuedUnitComesBack() {
        for (int kind = 0; kind < 3; kind++) {
            Story story = Story.everyState(kind);
            story.onlyInStates("giveBack", (x, u) -> x.giveBack(u), 2);
            story.then(x -> x.giveBack(2)).refuses("given back already", Check.STATE, x -> x.giveBack(2));
        }
    }

    private static Story issued(int life) {
        return Story.begin().then(x -> Check.confirmed(x, Check.O, 0),
            x -> x.unit(3, Check.PLASMA, Check.AB, 0, life), x -> x.pass(50), x -> x.issue(0, 0));
    }

    /** "Or 30 minutes or more have passed", "for how many minutes it was away". */
    private static void withinThirtyMinutes() {
        Story story = issued(60000);
        story.answers("at once", 0, x -> x.giveBack(0));
        story.then(x -> x.pass(1)).answers("after a minute", 1, x -> x.giveBack(0));
        story.then(x -> x.pass(29)).answers("the last minute", 29, x -> x.giveBack(0));
        story.then(x -> x.pass(30)).refuses("30 minutes", Check.STATE, x -> x.giveBack(0));
        story.then(x -> x.pass(31)).refuses("more", Check.STATE, x -> x.giveBack(0));
        story.then(x -> x.pass(50000)).refuses("far more", Check.STATE, x -> x.giveBack(0));
        Story emergency = Story.begin().then(x -> x.patient(), x -> Check.redCells(x, 0), x -> x.emergency(0, 0, 9));
        emergency.then(x -> x.pass(29)).answers("an emergency's last minute", 29, x -> x.giveBack(0));
        emergency.then(x -> x.pass(30)).refuses("30 minutes", Check.STATE, x -> x.giveBack(0))
            .answers("the doctor stays", 9, x -> x.of(0, 8));
    }

    private static void thirtyMinutesOfTheLatestIssue() {
        Story story = issued(60000).then(x -> x.pass(29), x -> x.giveBack(0), x -> x.pass(20), x -> x.issue(0, 0));
        story.answers("at once", 0, x -> x.giveBack(0));
        story.then(x -> x.pass(29)).answers("the last minute", 29, x -> x.giveBack(0));
        story.then(x -> x.pass(30)).refuses("30 minutes", Check.STATE, x -> x.giveBack(0));
    }

    /** "And is stored (expired or not)". */
    private static void itIsStoredExpiredOrNot() {
        for (int life : new int[] {51, 60, 61, 60000}) {
            Story story = issued(life).then(x -> x.pass(10), x -> x.giveBack(0));
            story.answers("stored", 0, x -> x.of(0, 0));
            story.answers("ready if not expired", life > 60 ? 1 : 0, x -> x.stock(Check.PLASMA, Check.AB, 0));
        }
        issued(60000).then(x -> x.quarantine(3, true)).answers("barred", 0, x -> x.giveBack(0));
    }

    /** "IllegalStateException when it is not issued." */
    private static void onlyAnIssuedUnitIsTransfused() {
        for (int kind = 0; kind < 3; kind++) {
            Story story = Story.everyState(kind);
            story.onlyInStates("transfused", (x, u) -> x.transfused(u), 2);
            story.answers("to whom", 0, x -> x.transfused(2));
            story.then(x -> x.giveBack(2)).refuses("given back", Check.STATE, x -> x.transfused(2));
        }
    }

    private static void noLimitOfTimeForATransfusion() {
        Story story = issued(60);
        story.then(x -> x.pass(29)).answers("while it might come back", 0, x -> x.transfused(0));
        story.then(x -> x.pass(30)).answers("when it may not", 0, x -> x.transfused(0));
        story.then(x -> x.pass(50000)).answers("long after", 0, x -> x.transfused(0));
        story.then(x -> x.quarantine(3, true)).answers("barred", 0, x -> x.transfused(0));
    }

    /** "IllegalArgumentException when reason is not 1 .. 5". */
    private static void reasonsOfADiscard() {
        Story story = Story.everyState(Check.PLASMA);
        for (int state = 0; state < 3; state++) {
            int u = state;
            story.bounds("reason", Check.ARGUMENT, 1, 5, (x, n) -> x.discard(u, n));
            story.answers("no reason yet", 0, x -> x.of(u, 9));
            for (int reason = 1; reason <= 5; reason++) {
                int r = reason;
                story.then(x -> x.discard(u, r)).answers("reason", r, x -> x.of(u, 9));
            }
        }
    }

    /** "IllegalStateException when it is not stored, reserved or issued", "the state in which it was". */
    private static void onlyStoredReservedOrIssuedOnesAreDiscarded() {
        for (int kind = 0; kind < 3; kind++) {
            Story story = Story.everyState(kind);
            story.onlyInStates("discard", (x, u) -> x.discard(u, 2), 0, 1, 2);
            for (int state = 0; state < 3; state++) {
                int u = state;
                story.answers("the state in which it was", u, x -> x.discard(u, 2));
                story.then(x -> x.quarantine(1, true)).answers("barred", u, x -> x.discard(u, 2));
                story.then(x -> x.discard(u, 2)).refuses("discarded already", Check.STATE, x -> x.discard(u, 3));
            }
            story.then(x -> x.pass(20000)).answers("expired", 0, x -> x.discard(0, 2));
            story.then(x -> x.pass(4309)).answers("a reservation's last minute", 1, x -> x.discard(1, 2));
            story.then(x -> x.pass(4310)).answers("a reservation that is over", 0, x -> x.discard(1, 2));
            story.then(x -> x.pass(30)).answers("issued for too long to come back", 2, x -> x.discard(2, 2));
        }
        Story.begin().then(x -> x.unit(0, Check.WHOLE, Check.O, 0, 1)).answers("whole blood", 0, x -> x.discard(0, 1));
    }

    private static void aDiscardedUnitStaysDiscarded() {
        Story story = Story.everyState(Check.PLASMA).then(x -> x.discard(1, 2), x -> x.discard(2, 2));
        for (int minutes : new int[] {0, 4309, 4310, 50000}) {
            for (int n = 1; n <= 2; n++) {
                int u = n;
                story.then(x -> x.pass(minutes)).answers("discarded", 4, x -> x.of(u, 0));
            }
        }
    }

    /** "IllegalArgumentException when there is no such donor." */
    private static void donorsOfAQuarantine() {
        Story story = Story.begin().times(16, (x, donor) -> Check.plasma(x, donor));
        for (Story s : new Story[] {story, story.times(16, (x, donor) -> x.quarantine(donor, true))}) {
            for (boolean on : new boolean[] {true, false}) {
                s.bounds("donor", Check.ARGUMENT, 0, 15, (x, n) -> x.quarantine(n, on));
                // A donor is kept as a bit, and a shift by 32 is one by 0.
                s.refuses("donor 32", Check.ARGUMENT, x -> x.quarantine(32, on));
            }
        }
        for (int d : new int[] {0, 15}) {
            story.answers("the first and the last", 1, x -> x.quarantine(d, true));
            story.then(x -> x.quarantine(d, true)).answers("barred", 1, x -> x.of(d, 7))
                .answers("another one", 0, x -> x.of(15 - d, 7));
        }
    }

    private static void quarantineOnAndOffTwice() {
        Story story = Story.begin().then(x -> Check.plasma(x, 4));
        story.answers("off, though never on", 0, x -> x.quarantine(4, false));
        Story on = story.then(x -> x.quarantine(4, true));
        on.answers("on again", 1, x -> x.quarantine(4, true));
        on.then(x -> x.quarantine(4, true)).answers("off once is enough", 0, x -> x.quarantine(4, false));
        on.then(x -> x.pass(50000)).answers("it does not end by itself", 1, x -> x.of(0, 7));
    }

    /** "How many units that are stored or reserved are barred by any donor then." */
    private static void howManyAreBarred() {
        for (int kind = 0; kind < 3; kind++) {
            Story story = Story.everyState(kind);
            story.answers("stored, reserved, and the product", 3, x -> x.quarantine(1, true));
            story.answers("another donor", 0, x -> x.quarantine(0, true));
            Story barred = story.then(x -> x.quarantine(1, true));
            barred.answers("by any donor", 3, x -> x.quarantine(0, true));
            barred.answers("no more", 0, x -> x.quarantine(1, false));
            barred.then(x -> x.giveBack(2)).answers("one came back", 4, x -> x.quarantine(1, true));
            barred.then(x -> x.discard(0, 1)).answers("one was discarded", 2, x -> x.quarantine(1, true));
            story.then(x -> x.pass(20000)).answers("expired or not", 3, x -> x.quarantine(1, true));
        }
    }

    private static void allAreBarred() {
        Story story = Story.begin().times(48, (x, u) -> Check.plasma(x, u % 16))
            .times(15, (x, donor) -> x.quarantine(donor, true));
        story.answers("all 48", 48, x -> x.quarantine(15, true));
        story.answers("all but three", 45, x -> x.quarantine(15, false));
        story.then(x -> x.quarantine(15, true)).answers("none is ready", 0, x -> x.stock(Check.PLASMA, Check.AB, 0));
    }

    private static void aUnitOfTwoDonorsCountsOnce() {
        Story story = Story.begin().times(2, (x, u) -> x.unit(u, Check.PLATELETS, Check.A, 0, 100))
            .then(x -> x.pool(0, 1), x -> x.quarantine(0, true));
        story.answers("both", 1, x -> x.quarantine(1, true)).answers("neither", 0, x -> x.quarantine(0, false));
        story.then(x -> x.quarantine(1, true)).answers("the other still", 1, x -> x.quarantine(0, false));
    }
}
