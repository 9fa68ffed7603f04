/** The boundaries of promises 12 to 16: crossmatch, reserve, release, issue, emergency. */
public final class GivingBoundsTest {
    public static void main(String[] args) {
        crossmatchOfStoredAndReserved();
        crossmatchOfRedCellsAlone();
        onlyTheLatestCrossmatchCounts();
        crossmatchLasts();
        reserveWhatIsReady();
        reserveInTheLastMinute();
        reserveForOneWhoIsNotLocked();
        reserveWithoutAReason();
        reserveRedCellsWithAValidCrossmatch();
        releaseWhatIsReserved();
        issueWhatIsStoredOrReserved();
        issueInTheLastMinute();
        issueWhatIsNotBarred();
        issueToOneWhoIsNotLocked();
        issueWithAFreshSample();
        issueWithoutAReason();
        issueRedCellsWithAValidCrossmatch();
        howManyWereIssued();
        doctorsOfAnEmergency();
        emergencyAsksForNoSample();
        emergencyAsksForNoCrossmatch();
        emergencyAsksForTheRestAsIssue();
        emergencyOfRedCellsOAndPlasmaAb();
        Check.finish();
    }

    /** "IllegalStateException when the unit is not stored and not reserved". */
    private static void crossmatchOfStoredAndReserved() {
        Story story = Story.everyState(Check.RED);
        for (boolean negative : new boolean[] {true, false}) {
            story.onlyInStates("crossmatch", (x, u) -> x.crossmatch(0, u, negative), 0, 1);
            story.onlyInStates("another one's crossmatch", (x, u) -> x.crossmatch(1, u, negative), 0, 1);
        }
        story.then(x -> x.quarantine(1, true)).takes("a barred one", x -> x.crossmatch(0, 0, true));
        story.then(x -> x.pass(20000)).takes("an expired one", x -> x.crossmatch(0, 0, true));
        story.then(x -> x.giveBack(2)).takes("one that was given back", x -> x.crossmatch(0, 2, true));
    }

    /** "UnsupportedOperationException when it is no red cells." */
    private static void crossmatchOfRedCellsAlone() {
        Story story = Story.begin().then(x -> x.patient()).times(4, (x, kind) -> x.unit(0, kind, 0, 0, 100));
        story.takes("red cells", x -> x.crossmatch(0, 0, true));
        for (int k = 1; k < 4; k++) {
            int kind = k;
            story.refuses("kind " + kind, Check.UNSUPPORTED, x -> x.crossmatch(0, kind, true));
            story.refuses("kind " + kind, Check.UNSUPPORTED, x -> x.crossmatch(0, kind, false));
        }
    }

    /** Two patients with fresh samples, and two units of red cells that fit them. */
    private static Story redCells() {
        return Story.begin().times(2, (x, p) -> Check.confirmed(x, Check.O, 0))
            .times(2, (x, u) -> x.unit(1, Check.RED, Check.O, 0, 60000));
    }

    /** "Only the latest of the two counts": of this patient and this unit. */
    private static void onlyTheLatestCrossmatchCounts() {
        Story story = redCells();
        boolean[] results = {true, false};
        for (boolean first : results) {
            for (boolean latest : results) {
                Story both = story.then(x -> x.crossmatch(0, 0, first), x -> x.crossmatch(0, 0, latest));
                if (latest) {
                    both.takes("the latest is negative", x -> x.reserve(0, 0));
                } else {
                    both.refuses("the latest is not", Check.UNSUPPORTED, x -> x.reserve(0, 0));
                    both.refuses("the latest is not", Check.UNSUPPORTED, x -> x.issue(0, 0));
                }
            }
        }
        Story others = story.then(x -> x.crossmatch(0, 0, true), x -> x.crossmatch(1, 0, false),
            x -> x.crossmatch(0, 1, false));
        others.takes("that of others does not count", x -> x.reserve(0, 0));
        others.refuses("another patient", Check.UNSUPPORTED, x -> x.reserve(1, 0));
        others.refuses("another unit", Check.UNSUPPORTED, x -> x.reserve(0, 1));
    }

    /** "It is VALID when it is negative, and lasts 4320 minutes." */
    private static void crossmatchLasts() {
        Story story = redCells().then(x -> x.pass(7), x -> x.crossmatch(0, 0, true));
        story.takes("its first minute", x -> x.reserve(0, 0));
        story.then(x -> x.pass(4319)).takes("its last minute", x -> x.reserve(0, 0));
        story.then(x -> x.pass(4320)).refuses("over", Check.UNSUPPORTED, x -> x.reserve(0, 0));
        story.then(x -> x.pass(50000)).refuses("long over", Check.UNSUPPORTED, x -> x.reserve(0, 0));
        Story again = story.then(x -> x.pass(4319), x -> x.crossmatch(0, 0, true));
        again.then(x -> x.pass(4319)).takes("the later one's last minute", x -> x.reserve(0, 0));
        again.then(x -> x.pass(4320)).refuses("the later one is over", Check.UNSUPPORTED, x -> x.reserve(0, 0));
        Story renewed = story.then(x -> x.pass(4320), x -> x.crossmatch(0, 0, true));
        renewed.takes("renewed", x -> x.reserve(0, 0));
    }

    /** "IllegalStateException when the unit is not ready": each state, and the quarantine. */
    private static void reserveWhatIsReady() {
        for (int kind = 0; kind < 3; kind++) {
            Story story = Story.everyState(kind);
            story.onlyInStates("reserve", (x, u) -> x.reserve(0, u), 0);
            story.onlyInStates("reserve for another", (x, u) -> x.reserve(1, u), 0);
            story.then(x -> x.quarantine(1, true)).refuses("barred", Check.STATE, x -> x.reserve(0, 0));
            story.then(x -> x.quarantine(0, true)).takes("another donor", x -> x.reserve(0, 0));
        }
        Story plasma = Story.everyState(Check.PLASMA);
        plasma.then(x -> x.pass(4309)).refuses("reserved still", Check.STATE, x -> x.reserve(1, 1));
        plasma.then(x -> x.pass(4310)).answers("a reservation is over", 8640, x -> x.reserve(1, 1));
        plasma.then(x -> x.release(1)).answers("released", 4330, x -> x.reserve(1, 1));
        plasma.then(x -> x.giveBack(2)).answers("given back", 4330, x -> x.reserve(1, 2));
    }

    private static void reserveInTheLastMinute() {
        Story story = Story.begin().then(x -> x.patient(), x -> x.unit(0, Check.PLASMA, Check.AB, 0, 100));
        story.then(x -> x.pass(99)).answers("the last minute", 4419, x -> x.reserve(0, 0));
        story.then(x -> x.pass(100)).refuses("expired", Check.STATE, x -> x.reserve(0, 0));
    }

    /** "Or the patient is locked". */
    private static void reserveForOneWhoIsNotLocked() {
        Story story = Story.begin().then(x -> Check.locked(x), x -> x.patient(), x -> Check.plasma(x, 0));
        story.refuses("locked", Check.STATE, x -> x.reserve(0, 0));
        story.answers("one without a sample", 4320, x -> x.reserve(1, 0));
        story.then(x -> x.unlock(0, 0, 0)).answers("unlocked", 4320, x -> x.reserve(0, 0));
    }

    /** To patient 0 units 1 .. 5 are forbidden, each by the rule of its number; unit 6, made of unit 0, is not. */
    private static Story reasons() {
        return Story.begin().then(x -> Check.confirmed(x, Check.O, 0), x -> x.antibody(0, 3),
            x -> x.unit(0, Check.RED, Check.O, 0, 20000), x -> x.unit(0, Check.WHOLE, Check.O, 0, 20000),
            x -> x.unit(0, Check.RED, Check.A, 0, 20000), x -> x.unit(0, Check.RED, Check.O, 1, 20000),
            x -> x.unit(0, Check.RED, Check.O, 0, 20000), x -> x.unit(0, Check.RED, Check.O, 0, 20000),
            x -> x.antigen(0, 3, 0), x -> x.antigen(5, 3, 0), x -> x.process(0, 1), x -> x.need(0, 1),
            x -> x.pass(5))
            .times(7, (x, u) -> Check.outcome(() -> x.crossmatch(0, u, true)));
    }

    /** "UnsupportedOperationException when there is a reason": each of the five. */
    private static void reserveWithoutAReason() {
        Story story = reasons();
        story.answers("no reason", 4325, x -> x.reserve(0, 6));
        for (int u = 1; u <= 5; u++) {
            int reason = u;
            story.answers("why", reason, x -> x.why(0, reason));
            story.refuses("reason " + u, Check.UNSUPPORTED, x -> x.reserve(0, reason));
        }
    }

    /** "Or it is red cells without a valid crossmatch": for the others none is asked. */
    private static void reserveRedCellsWithAValidCrossmatch() {
        Story story = Story.begin().then(x -> x.patient()).times(3, (x, k) -> x.unit(0, k, k == 0 ? 0 : 3, 0, 100));
        story.refuses("red cells", Check.UNSUPPORTED, x -> x.reserve(0, 0));
        story.answers("plasma", 4320, x -> x.reserve(0, 1)).answers("platelets", 4320, x -> x.reserve(0, 2));
        story.then(x -> x.crossmatch(0, 0, true)).answers("red cells", 4320, x -> x.reserve(0, 0));
        story.then(x -> x.crossmatch(0, 0, false)).refuses("not negative", Check.UNSUPPORTED, x -> x.reserve(0, 0));
    }

    /** "IllegalStateException when it is not reserved." */
    private static void releaseWhatIsReserved() {
        Story story = Story.everyState(Check.PLASMA);
        story.onlyInStates("release", (x, u) -> x.release(u), 1);
        story.answers("for whom", 0, x -> x.release(1));
        story.then(x -> x.reserve(1, 0)).answers("for whom", 1, x -> x.release(0));
        story.then(x -> x.release(1)).refuses("released already", Check.STATE, x -> x.release(1))
            .answers("stored", 0, x -> x.of(1, 0));
        story.then(x -> x.pass(4309)).answers("the last minute", 0, x -> x.release(1));
        story.then(x -> x.pass(4310)).refuses("over", Check.STATE, x -> x.release(1));
        story.then(x -> x.quarantine(1, true)).answers("barred", 0, x -> x.release(1));
        Story shortLived = Story.begin().then(x -> x.patient(), x -> x.unit(0, Check.PLASMA, Check.AB, 0, 100),
            x -> x.reserve(0, 0), x -> x.pass(100));
        shortLived.answers("expired", 0, x -> x.release(0));
    }

    /** "When the unit is neither stored nor reserved for that patient". */
    private static void issueWhatIsStoredOrReserved() {
        for (int kind = 0; kind < 3; kind++) {
            Story story = Story.everyState(kind).times(2, (x, n) -> x.sample(1, Check.O, 0));
            story.onlyInStates("issue", (x, u) -> x.issue(0, u), 0, 1);
            story.onlyInStates("issue to another", (x, u) -> x.issue(1, u), 0);
            story.then(x -> x.pass(4309)).refuses("reserved for another", Check.STATE, x -> x.issue(1, 1));
            story.then(x -> x.release(1)).takes("released", x -> x.issue(1, 1));
            story.then(x -> x.giveBack(2)).takes("given back", x -> x.issue(1, 2));
        }
        Story over = Story.everyState(Check.PLASMA).then(x -> x.pass(4310), x -> x.sample(1, Check.O, 0));
        over.answers("the reservation for another is over", 1, x -> x.issue(1, 1));
    }

    /** "Or is expired": stored or reserved. */
    private static void issueInTheLastMinute() {
        Story stored = Story.begin().then(x -> Check.confirmed(x, Check.O, 0),
            x -> x.unit(0, Check.PLASMA, Check.AB, 0, 100));
        for (Story story : new Story[] {stored, stored.then(x -> x.reserve(0, 0))}) {
            story.then(x -> x.pass(99)).answers("the last minute", 1, x -> x.issue(0, 0))
                .answers("the last minute", 1, x -> x.emergency(0, 0, 1));
            story.then(x -> x.pass(100)).refuses("expired", Check.STATE, x -> x.issue(0, 0))
                .refuses("expired", Check.STATE, x -> x.emergency(0, 0, 1));
        }
    }

    /** "Or barred": stored or reserved. */
    private static void issueWhatIsNotBarred() {
        Story story = Story.everyState(Check.PLASMA).then(x -> x.quarantine(1, true));
        for (int n = 0; n < 2; n++) {
            int u = n;
            story.refuses("barred", Check.STATE, x -> x.issue(0, u));
            story.refuses("barred", Check.STATE, x -> x.emergency(0, u, 1));
            story.then(x -> x.quarantine(1, false)).takes("barred no more", x -> x.issue(0, u))
                .takes("barred no more", x -> x.emergency(0, u, 1));
        }
    }

    /** "Or the patient is locked": after the reservation too. */
    private static void issueToOneWhoIsNotLocked() {
        Story story = Story.everyState(Check.PLASMA).then(x -> x.sample(0, Check.B, 0), x -> x.pass(1));
        for (int n = 0; n < 2; n++) {
            int u = n;
            story.refuses("locked", Check.STATE, x -> x.issue(0, u));
            story.refuses("locked", Check.STATE, x -> x.emergency(0, u, 1));
            story.then(x -> x.unlock(0, Check.O, 0)).takes("unlocked", x -> x.issue(0, u))
                .takes("unlocked", x -> x.emergency(0, u, 1));
        }
    }

    /** "Or has no fresh sample", "a patient's latest sample is FRESH for 4320 minutes." */
    private static void issueWithAFreshSample() {
        Story story = Story.begin().then(x -> x.patient(), x -> Check.plasma(x, 0), x -> x.pass(3));
        story.refuses("no sample", Check.STATE, x -> x.issue(0, 0));
        Story once = story.then(x -> x.sample(0, Check.A, 0));
        once.answers("one sample, not confirmed", 1, x -> x.issue(0, 0));
        once.then(x -> x.pass(4319)).answers("its last minute", 1, x -> x.issue(0, 0));
        once.then(x -> x.pass(4320)).refuses("fresh no more", Check.STATE, x -> x.issue(0, 0));
        once.then(x -> x.pass(50000)).refuses("old", Check.STATE, x -> x.issue(0, 0));
        Story twice = once.then(x -> x.pass(4319), x -> x.sample(0, Check.A, 0));
        twice.then(x -> x.pass(4319)).answers("the latest one's last minute", 1, x -> x.issue(0, 0));
        twice.then(x -> x.pass(4320)).refuses("the latest is fresh no more", Check.STATE, x -> x.issue(0, 0));
    }

    /** "UnsupportedOperationException when there is a reason": each of the five. */
    private static void issueWithoutAReason() {
        Story story = reasons();
        story.answers("no reason", 1, x -> x.issue(0, 6));
        for (int u = 1; u <= 5; u++) {
            int reason = u;
            story.refuses("reason " + u, Check.UNSUPPORTED, x -> x.issue(0, reason));
            story.refuses("reason " + u, Check.UNSUPPORTED, x -> x.emergency(0, reason, 1));
        }
        Story late = story.then(x -> x.reserve(0, 6), x -> x.need(0, 3));
        late.refuses("a reason since it was reserved", Check.UNSUPPORTED, x -> x.issue(0, 6));
        late.refuses("a reason since it was reserved", Check.UNSUPPORTED, x -> x.emergency(0, 6, 1));
    }

    /** "Or it is red cells without a valid crossmatch." */
    private static void issueRedCellsWithAValidCrossmatch() {
        Story story = redCells();
        story.refuses("no crossmatch", Check.UNSUPPORTED, x -> x.issue(0, 0));
        story.then(x -> x.crossmatch(0, 0, false)).refuses("not negative", Check.UNSUPPORTED, x -> x.issue(0, 0));
        Story matched = story.then(x -> x.crossmatch(0, 0, true), x -> x.pass(1), x -> x.sample(0, Check.O, 0));
        matched.then(x -> x.pass(4318)).answers("its last minute", 1, x -> x.issue(0, 0));
        matched.then(x -> x.pass(4319)).refuses("over", Check.UNSUPPORTED, x -> x.issue(0, 0));
        Story reserved = matched.then(x -> x.reserve(0, 0));
        reserved.then(x -> x.pass(4318)).answers("reserved, its last minute", 1, x -> x.issue(0, 0));
        reserved.then(x -> x.pass(4319)).refuses("reserved, over", Check.UNSUPPORTED, x -> x.issue(0, 0));
        reserved.then(x -> x.crossmatch(0, 0, false)).refuses("not since", Check.UNSUPPORTED, x -> x.issue(0, 0));
        matched.then(x -> x.process(0, 1)).refuses("its product", Check.UNSUPPORTED, x -> x.issue(0, 2));
    }

    /** "How many were issued to that one and not given back": from the first to all 48. */
    private static void howManyWereIssued() {
        Story story = Story.begin().times(2, (x, p) -> Check.confirmed(x, Check.O, 0))
            .times(48, (x, u) -> Check.plasma(x, 0)).times(47, (x, u) -> x.issue(0, u));
        story.answers("all", 48, x -> x.issue(0, 47)).answers("all", 48, x -> x.emergency(0, 47, 1));
        story.answers("another one's first", 1, x -> x.issue(1, 47));
        story.then(x -> x.transfused(0), x -> x.discard(1, 1)).answers("whatever became", 48, x -> x.issue(0, 47));
        story.times(47, (x, u) -> x.giveBack(u)).answers("all given back", 1, x -> x.issue(0, 47))
            .answers("one of them again", 1, x -> x.issue(0, 0));
        story.then(x -> x.giveBack(0)).answers("one of them again", 47, x -> x.issue(0, 0));
        Story reserved = Story.everyState(Check.PLASMA);
        reserved.answers("a reserved one does not count before", 3, x -> x.issue(0, 0));
    }

    /** "IllegalArgumentException when doctor is not 1 .. 999". */
    private static void doctorsOfAnEmergency() {
        Story story = Story.begin().then(x -> x.patient(), x -> Check.redCells(x, 0), x -> Check.plasma(x, 0));
        for (int n = 0; n < 2; n++) {
            int u = n;
            story.bounds("doctor", Check.ARGUMENT, 1, 999, (x, doctor) -> x.emergency(0, u, doctor));
        }
    }

    /** "Neither a fresh sample". */
    private static void emergencyAsksForNoSample() {
        Story story = Story.begin().then(x -> x.patient(), x -> Check.plasma(x, 0));
        story.answers("no sample", 1, x -> x.emergency(0, 0, 1));
        story.then(x -> x.sample(0, Check.A, 0), x -> x.pass(4320)).answers("an old one", 1, x -> x.emergency(0, 0, 1));
    }

    /** "Nor a valid crossmatch is asked for". */
    private static void emergencyAsksForNoCrossmatch() {
        Story story = redCells();
        story.answers("no crossmatch", 1, x -> x.emergency(0, 0, 1));
        story.then(x -> x.crossmatch(0, 0, false)).answers("not negative", 1, x -> x.emergency(0, 0, 1));
        story.then(x -> x.crossmatch(0, 0, true), x -> x.pass(4320)).answers("over", 1, x -> x.emergency(0, 0, 1));
    }

    /** "As issue": each state, and the reservation for another. */
    private static void emergencyAsksForTheRestAsIssue() {
        for (int kind = 0; kind < 2; kind++) {
            Story story = Story.everyState(kind);
            story.onlyInStates("emergency", (x, u) -> x.emergency(0, u, 1), 0, 1);
            story.onlyInStates("emergency of another", (x, u) -> x.emergency(1, u, 1), 0);
            story.answers("how many", 3, x -> x.emergency(0, 0, 1)).answers("how many", 3, x -> x.emergency(0, 1, 1));
        }
        Story over = Story.everyState(Check.PLASMA);
        over.then(x -> x.pass(4309)).refuses("reserved for another", Check.STATE, x -> x.emergency(1, 1, 1));
        over.then(x -> x.pass(4310)).answers("that is over", 1, x -> x.emergency(1, 1, 1));
    }

    /** "Also when it is neither red cells of group O nor plasma of AB." */
    private static void emergencyOfRedCellsOAndPlasmaAb() {
        for (int n = 0; n < 32; n++) {
            int kind = n / 8;
            int group = n % 8 / 2;
            int rhesus = n % 2;
            int fitting = kind == Check.RED ? Check.AB : Check.O;
            Story story = Story.begin().then(x -> Check.confirmed(x, fitting, 1),
                x -> x.unit(0, kind, group, rhesus, 100));
            story.answers("only whole blood has a reason", kind == Check.WHOLE ? 1 : 0, x -> x.why(0, 0));
            boolean may = kind == Check.RED && group == Check.O || kind == Check.PLASMA && group == Check.AB;
            if (may) {
                story.answers("emergency", 1, x -> x.emergency(0, 0, 1));
            } else {
                story.refuses("kind " + kind + " of group " + group, Check.UNSUPPORTED, x -> x.emergency(0, 0, 1));
            }
        }
    }
}
