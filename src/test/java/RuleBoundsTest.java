/** The boundaries of promise 24, and of each of the rules under 'Terms'. */
public final class RuleBoundsTest {
    public static void main(String[] args) {
        wholeBloodIsForNobody();
        eachPartOfTheGroup();
        oneWhoIsNotConfirmed();
        rhesusOfRedCellsAlone();
        eachAntigenMustBeAbsent();
        antibodiesForbidRedCellsAlone();
        allMarksThatAreNeeded();
        theFirstRuleThatForbidsIt();
        inWhateverState();
        aReasonComesAndGoes();
        Check.finish();
    }

    /** "1 it is whole blood." */
    private static void wholeBloodIsForNobody() {
        for (int type = 0; type < 8; type++) {
            int group = type / 2;
            int rhesus = type % 2;
            Story story = Story.begin().then(x -> Check.confirmed(x, group, rhesus), x -> x.patient(),
                x -> x.unit(0, Check.WHOLE, group, rhesus, 100));
            story.answers("its own type", 1, x -> x.why(0, 0)).answers("one not confirmed", 1, x -> x.why(1, 0));
        }
    }

    /** The story of a unit of a kind and a group, without rhesus, and of a confirmed patient. */
    private static Story pair(int kind, int unitGroup, int patientGroup) {
        return Story.begin().then(x -> Check.confirmed(x, patientGroup, 0), x -> x.unit(0, kind, unitGroup, 0, 100));
    }

    /** "2 GROUP: of red cells each part of the unit's group must be in the patient's; of plasma ... in the unit's". */
    private static void eachPartOfTheGroup() {
        for (int n = 0; n < 16; n++) {
            int unit = n / 4;
            int patient = n % 4;
            int both = unit & patient;
            pair(Check.RED, unit, patient).answers("red cells " + n, both == unit ? 0 : 2, x -> x.why(0, 0));
            pair(Check.PLASMA, unit, patient).answers("plasma " + n, both == patient ? 0 : 2, x -> x.why(0, 0));
            pair(Check.PLATELETS, unit, patient).answers("platelets " + n, both == patient ? 0 : 2, x -> x.why(0, 0));
        }
    }

    /** "A patient who is not confirmed counts as O for red cells, as AB for the others." */
    private static void oneWhoIsNotConfirmed() {
        Story units = Story.begin().times(12, (x, n) -> x.unit(0, n / 4, n % 4, 0, 100)).then(x -> x.patient());
        Story[] stories = {units, units.then(x -> x.sample(0, Check.B, 1)),
            units.then(x -> x.sample(0, Check.O, 0), x -> x.sample(0, Check.AB, 0)),
            units.times(2, (x, n) -> x.sample(0, Check.AB, 1)).then(x -> x.sample(0, Check.A, 1))};
        int[] due = {0, 2, 2, 2, 2, 2, 2, 0, 2, 2, 2, 0};
        for (Story story : stories) {
            for (int n = 0; n < 12; n++) {
                int u = n;
                story.answers("kind " + u / 4 + " of group " + u % 4, due[u], x -> x.why(0, u));
            }
        }
        Story unlocked = stories[2].then(x -> x.unlock(0, Check.AB, 0));
        unlocked.answers("confirmed by unlocking", 0, x -> x.why(0, 3));
    }

    /** "3 RHESUS: red cells with it only to a patient who is confirmed with it." */
    private static void rhesusOfRedCellsAlone() {
        Story units = Story.begin().times(6, (x, n) -> x.unit(0, n / 2, n < 2 ? Check.O : Check.AB, n % 2, 100))
            .then(x -> x.patient());
        Story with = units.then(x -> x.sample(0, Check.O, 1));
        Story without = units.then(x -> x.sample(0, Check.O, 0));
        Story[] stories = {units, with, with.then(x -> x.sample(0, Check.O, 1)), without,
            without.then(x -> x.sample(0, Check.O, 0)), without.then(x -> x.sample(0, Check.O, 1)),
            without.then(x -> x.sample(0, Check.O, 1), x -> x.unlock(0, Check.O, 1))};
        boolean[] confirmedWith = {false, false, true, false, false, false, true};
        for (int n = 0; n < stories.length; n++) {
            stories[n].answers("red cells without", 0, x -> x.why(0, 0));
            stories[n].answers("red cells with, " + n, confirmedWith[n] ? 0 : 3, x -> x.why(0, 1));
            for (int u = 2; u < 6; u++) {
                int other = u;
                stories[n].answers("the others, with or without", 0, x -> x.why(0, other));
            }
        }
    }

    /** "4 ANTIBODIES: red cells only when each antigen against which there are antibodies is absent." */
    private static void eachAntigenMustBeAbsent() {
        for (int n = 0; n < 8; n++) {
            int a = n;
            Story story = Story.begin().then(x -> x.patient(), x -> Check.redCells(x, 0), x -> x.antibody(0, a));
            story.answers("unknown", 4, x -> x.why(0, 0));
            story.then(x -> x.antigen(0, a, 1)).answers("present", 4, x -> x.why(0, 0));
            story.then(x -> x.antigen(0, a, 0)).answers("absent", 0, x -> x.why(0, 0));
            story.then(x -> x.antigen(0, a, 0), x -> x.antigen(0, a, 2)).answers("unknown", 4, x -> x.why(0, 0));
            story.then(x -> x.antigen(0, a, 0), x -> x.antigen(0, (a + 1) % 8, 1))
                .answers("another one is present", 0, x -> x.why(0, 0));
        }
        Story all = Story.begin().then(x -> x.patient(), x -> Check.redCells(x, 0))
            .times(8, (x, a) -> x.antibody(0, a)).times(8, (x, a) -> x.antigen(0, a, 0));
        all.answers("all eight are absent", 0, x -> x.why(0, 0));
        for (int n = 0; n < 8; n++) {
            int a = n;
            all.then(x -> x.antigen(0, a, 1)).answers("all but one", 4, x -> x.why(0, 0));
            all.then(x -> x.antigen(0, a, 2)).answers("all but one", 4, x -> x.why(0, 0));
        }
    }

    private static void antibodiesForbidRedCellsAlone() {
        Story story = Story.begin().then(x -> x.patient()).times(8, (x, a) -> x.antibody(0, a))
            .times(3, (x, kind) -> x.unit(0, kind, kind == Check.RED ? Check.O : Check.AB, 0, 100))
            .times(3, (x, u) -> x.antigen(u, 0, 1));
        story.answers("red cells", 4, x -> x.why(0, 0)).answers("plasma", 0, x -> x.why(0, 1));
        story.answers("platelets", 0, x -> x.why(0, 2));
    }

    /** "5 NEEDS: all marks that are needed are there." */
    private static void allMarksThatAreNeeded() {
        Story story = Story.begin().then(x -> x.patient()).times(3, (x, n) -> Check.redCells(x, 0))
            .times(2, (x, n) -> Check.plasma(x, 0)).times(2, (x, n) -> x.unit(0, Check.PLATELETS, Check.AB, 0, 100))
            .then(x -> x.process(1, 1), x -> x.process(2, 2), x -> x.process(4, 3), x -> x.process(6, 2),
                x -> x.process(7, 2));
        int[] units = {0, 3, 5, 7, 8, 9, 10, 11};
        int[] marks = {0, 0, 0, 1, 2, 4, 2, 3};
        for (int n = 0; n < 64; n++) {
            int u = units[n / 8];
            int has = marks[n / 8];
            int needed = n % 8;
            story.answers("marks", has, x -> x.of(u, 4));
            story.then(x -> x.need(0, needed))
                .answers("needs " + needed + ", marks " + has, (needed & has) == needed ? 0 : 5, x -> x.why(0, u));
        }
    }

    /** "The REASON is the number of the first one that forbids it, 0 when none does". */
    private static void theFirstRuleThatForbidsIt() {
        for (int n = 0; n < 32; n++) {
            int[] forbids = {n & 1, n >> 1 & 1, n >> 2 & 1, n >> 3 & 1, n >> 4 & 1};
            Story story = Story.begin().then(x -> Check.confirmed(x, Check.A, 0),
                x -> x.unit(0, forbids[0] * Check.WHOLE, forbids[1] == 1 ? Check.B : Check.A, forbids[2], 100));
            if (forbids[3] == 1) {
                story = story.then(x -> x.antibody(0, 0));
            }
            if (forbids[4] == 1) {
                story = story.then(x -> x.need(0, 1));
            }
            int first = n == 0 ? 0 : Integer.numberOfTrailingZeros(n) + 1;
            story.answers("rules " + Integer.toBinaryString(n), first, x -> x.why(0, 0));
        }
    }

    /** "The reason for a patient and a unit, in whatever state." */
    private static void inWhateverState() {
        for (int kind = 0; kind < 3; kind++) {
            Story story = Story.everyState(kind);
            Story[] stories = {story, story.then(x -> x.quarantine(1, true)), story.then(x -> x.pass(50000))};
            for (Story s : stories) {
                for (int n = 0; n < 6; n++) {
                    int u = n;
                    s.answers("state " + u, 0, x -> x.why(0, u)).answers("to another", 0, x -> x.why(1, u));
                    s.then(x -> x.need(0, 7)).answers("needs, state " + u, 5, x -> x.why(0, u));
                }
            }
        }
        Story whole = Story.begin().then(x -> x.patient(), x -> x.unit(0, Check.WHOLE, Check.O, 0, 100));
        whole.then(x -> x.process(0, 0)).answers("used up", 1, x -> x.why(0, 0));
        whole.then(x -> x.discard(0, 1)).answers("discarded", 1, x -> x.why(0, 0));
    }

    /** A crossmatch, a sample that is fresh no more, and a doctor are no reasons; what is confirmed is. */
    private static void aReasonComesAndGoes() {
        Story story = pair(Check.RED, Check.A, Check.A);
        story.then(x -> x.crossmatch(0, 0, false)).answers("not negative", 0, x -> x.why(0, 0));
        story.then(x -> x.pass(50000)).answers("an old sample", 0, x -> x.why(0, 0));
        Story locked = story.then(x -> x.sample(0, Check.B, 0));
        locked.answers("locked", 2, x -> x.why(0, 0));
        locked.then(x -> x.unlock(0, Check.A, 0)).answers("unlocked", 0, x -> x.why(0, 0));
    }
}
