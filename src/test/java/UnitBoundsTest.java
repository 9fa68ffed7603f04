/** The boundaries of promises 1 to 4, 21 and 22: a new object, pass, unit, antigen, of, has. */
public final class UnitBoundsTest {
    public static void main(String[] args) {
        nothingIsThereAtFirst();
        nobodyIsInQuarantineAtFirst();
        minutesOfPass();
        argumentsOfUnit();
        lifeOfUnit();
        atMostFortyEight();
        noUnitEverMakesRoom();
        antigensAndValues();
        antigenOfAStoredUnitAlone();
        whatOfAUnit();
        patientOfAUnit();
        doctorOfAUnit();
        antigenThatIsAskedFor();
        Check.finish();
    }

    /** "No units, no patients". */
    private static void nothingIsThereAtFirst() {
        Story story = Story.begin();
        for (int k = 0; k < 4; k++) {
            int kind = k;
            for (int s = 0; s < 6; s++) {
                int state = s;
                story.answers("count", 0, x -> x.count(kind, state));
            }
            story.answers("stock", 0, x -> x.stock(kind, Check.NONE, Check.NONE));
        }
        story.lists("expiring", (x, i) -> x.expiring(60000, i));
        for (int d = 0; d < 16; d++) {
            int donor = d;
            story.lists("lookback", (x, i) -> x.lookback(donor, i));
            story.answers("quarantine", 0, x -> x.quarantine(donor, true));
        }
        story.answers("the first unit", 0, x -> Check.redCells(x, 0));
        story.answers("the first patient", 0, x -> x.patient());
    }

    /** "Nobody in quarantine". */
    private static void nobodyIsInQuarantineAtFirst() {
        for (int d = 0; d < 16; d++) {
            int donor = d;
            Story story = Story.begin().then(x -> Check.plasma(x, donor));
            story.answers("barred", 0, x -> x.of(0, 7)).answers("ready", 1, x -> x.stock(Check.PLASMA, Check.AB, 0));
        }
    }

    /** "IllegalArgumentException when it is not 0 .. 50000." */
    private static void minutesOfPass() {
        Story story = Story.begin().then(x -> x.pass(3));
        story.bounds("minutes", Check.ARGUMENT, 0, 50000, (x, n) -> x.pass(n));
        story.answers("no minute", 3, x -> x.pass(0)).answers("one minute", 4, x -> x.pass(1));
        story.answers("the most", 50003, x -> x.pass(50000));
    }

    /** "IllegalArgumentException when donor, kind, group or rhesus is none". */
    private static void argumentsOfUnit() {
        Story story = Story.begin();
        story.bounds("donor", Check.ARGUMENT, 0, 15, (x, n) -> x.unit(n, 0, 0, 0, 1));
        story.bounds("kind", Check.ARGUMENT, 0, 3, (x, n) -> x.unit(0, n, 0, 0, 1));
        story.bounds("group", Check.ARGUMENT, 0, 3, (x, n) -> x.unit(0, 0, n, 0, 1));
        story.bounds("rhesus", Check.ARGUMENT, 0, 1, (x, n) -> x.unit(0, 0, 0, n, 1));
        // A donor is kept as a bit, and a shift by 32 is one by 0.
        story.refuses("donor 32", Check.ARGUMENT, x -> x.unit(32, 0, 0, 0, 1));
    }

    /** "or life is not 1 .. 60000", "its expiry so many minutes from now". */
    private static void lifeOfUnit() {
        Story story = Story.begin().then(x -> x.pass(5));
        story.bounds("life", Check.ARGUMENT, 1, 60000, (x, n) -> x.unit(0, 0, 0, 0, n));
        story.then(x -> x.unit(0, 0, 0, 0, 1)).answers("the shortest", 6, x -> x.of(0, 5));
        story.then(x -> x.unit(0, 0, 0, 0, 60000)).answers("the longest", 60005, x -> x.of(0, 5));
    }

    /** "At most 48", "IllegalStateException when there are 48." */
    private static void atMostFortyEight() {
        Story story = Story.begin().times(47, (x, u) -> Check.redCells(x, u % 16));
        story.answers("the 48th", 47, x -> x.unit(0, 0, 0, 0, 1));
        story.then(x -> x.unit(15, 3, 3, 1, 1)).answers("the 48th", 3, x -> x.of(47, 1))
            .refuses("the 49th", Check.STATE, x -> x.unit(0, 0, 0, 0, 1));
    }

    /** A unit keeps its number "whatever became of it". */
    private static void noUnitEverMakesRoom() {
        Story.begin().times(48, (x, u) -> Check.plasma(x, 0)).times(48, (x, u) -> x.discard(u, 1))
            .refuses("all discarded", Check.STATE, x -> Check.plasma(x, 0));
        Story.begin().times(24, (x, u) -> Check.plasma(x, 0)).times(24, (x, u) -> x.process(u, 3))
            .refuses("half used up", Check.STATE, x -> Check.plasma(x, 0));
        Story.begin().times(48, (x, u) -> x.unit(0, 0, 0, 0, 1)).then(x -> x.pass(1))
            .refuses("all expired", Check.STATE, x -> Check.plasma(x, 0));
    }

    /** "IllegalArgumentException when there is no such antigen or value". */
    private static void antigensAndValues() {
        Story story = Story.begin().then(x -> Check.redCells(x, 0), x -> x.antigen(0, 0, 1), x -> x.antigen(0, 7, 0));
        story.bounds("antigen", Check.ARGUMENT, 0, 7, (x, n) -> x.antigen(0, n, 2));
        story.bounds("value", Check.ARGUMENT, 0, 2, (x, n) -> x.antigen(0, 0, n));
        story.refuses("antigen 32", Check.ARGUMENT, x -> x.antigen(0, 32, 2));
        for (int n = 0; n < 9; n++) {
            int before = n / 3;
            int after = n % 3;
            for (int a : new int[] {0, 7}) {
                story.then(x -> x.antigen(0, a, before), x -> x.antigen(0, a, after))
                    .answers("from " + before + " to " + after, after, x -> x.has(0, a));
            }
        }
    }

    /** "IllegalStateException when the unit is not stored." */
    private static void antigenOfAStoredUnitAlone() {
        Story story = Story.everyState(Check.PLASMA);
        story.onlyInStates("antigen", (x, u) -> x.antigen(u, 0, 1), 0);
        story.then(x -> x.quarantine(1, true)).takes("a barred one", x -> x.antigen(0, 0, 1));
        story.then(x -> x.pass(20000)).takes("an expired one", x -> x.antigen(0, 0, 1));
        story.then(x -> x.release(1)).takes("one that was released", x -> x.antigen(1, 0, 1));
        story.then(x -> x.pass(4309)).refuses("a reservation's last minute", Check.STATE, x -> x.antigen(1, 0, 1));
        story.then(x -> x.pass(4310)).takes("a reservation that is over", x -> x.antigen(1, 0, 1));
        story.then(x -> x.giveBack(2)).takes("one that was given back", x -> x.antigen(2, 0, 1));
    }

    /** "IndexOutOfBoundsException when there is no such what." */
    private static void whatOfAUnit() {
        Story story = Story.everyState(Check.PLASMA);
        for (int state = 0; state < 6; state++) {
            int u = state;
            story.bounds("what in state " + u, Check.INDEX, 0, 9, (x, n) -> x.of(u, n));
        }
    }

    /** "The patient for whom it is reserved, or to whom it was issued and not given back (... 6, NONE)". */
    private static void patientOfAUnit() {
        Story story = Story.everyState(Check.PLASMA);
        int[] due = {Check.NONE, 0, 0, 0, Check.NONE, Check.NONE, Check.NONE};
        for (int n = 0; n < due.length; n++) {
            int u = n;
            story.answers("patient of unit " + u, due[u], x -> x.of(u, 6));
        }
        story.then(x -> x.pass(4309)).answers("its last minute", 0, x -> x.of(1, 6));
        story.then(x -> x.pass(4310)).answers("the reservation is over", Check.NONE, x -> x.of(1, 6));
        story.then(x -> x.release(1)).answers("released", Check.NONE, x -> x.of(1, 6));
        story.then(x -> x.discard(1, 5)).answers("reserved, then discarded", Check.NONE, x -> x.of(1, 6));
        story.then(x -> x.giveBack(2)).answers("given back", Check.NONE, x -> x.of(2, 6));
        story.then(x -> x.giveBack(2), x -> x.discard(2, 5)).answers("given back first", Check.NONE, x -> x.of(2, 6));
        story.then(x -> x.discard(2, 5)).answers("issued, then discarded", 0, x -> x.of(2, 6));
        story.then(x -> x.pass(50000)).answers("issued long ago", 0, x -> x.of(2, 6));
    }

    /** "The doctor of its emergency issue (8, 0 for none; none when it was given back)". */
    private static void doctorOfAUnit() {
        Story story = Story.begin().then(x -> Check.confirmed(x, Check.O, 0), x -> Check.plasma(x, 0));
        story.answers("never issued", 0, x -> x.of(0, 8));
        story.then(x -> x.issue(0, 0)).answers("issued by rule", 0, x -> x.of(0, 8));
        for (int n : new int[] {1, 999}) {
            Story issued = story.then(x -> x.emergency(0, 0, n));
            issued.answers("doctor", n, x -> x.of(0, 8));
            issued.then(x -> x.transfused(0)).answers("transfused", n, x -> x.of(0, 8));
            issued.then(x -> x.discard(0, 1)).answers("discarded", n, x -> x.of(0, 8));
            issued.then(x -> x.giveBack(0)).answers("given back", 0, x -> x.of(0, 8));
            issued.then(x -> x.giveBack(0), x -> x.issue(0, 0)).answers("issued by rule then", 0, x -> x.of(0, 8));
            issued.then(x -> x.giveBack(0), x -> x.emergency(0, 0, 5)).answers("by another", 5, x -> x.of(0, 8));
        }
    }

    /** "IndexOutOfBoundsException when there is no such antigen." */
    private static void antigenThatIsAskedFor() {
        Story story = Story.begin().then(x -> Check.redCells(x, 0), x -> x.antigen(0, 0, 1), x -> x.antigen(0, 7, 0));
        story.bounds("antigen", Check.INDEX, 0, 7, (x, n) -> x.has(0, n));
        story.refuses("antigen 32", Check.INDEX, x -> x.has(0, 32));
        story.answers("the first", 1, x -> x.has(0, 0)).answers("the last", 0, x -> x.has(0, 7));
        story.answers("one between", 2, x -> x.has(0, 3));
    }
}
