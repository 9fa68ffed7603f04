/** The boundaries of promises 7 to 11 and 23: patient, sample, unlock, antibody, need, who. */
public final class PatientBoundsTest {
    public static void main(String[] args) {
        atMostTen();
        groupAndRhesusOfASample();
        theFirstAndTheSecondSample();
        oneThatIsAnotherThanTheOneBefore();
        aConfirmedOneIsLockedToo();
        noSampleOfALockedOne();
        noLimitOfTimeBetweenSamples();
        groupAndRhesusOfAnUnlocking();
        onlyALockedOneIsUnlocked();
        whatUnlockedCountsAsTheLatestSample();
        theMinuteOfTheSampleStays();
        antigensOfAntibodies();
        howManyAntibodies();
        marksOfNeeds();
        whatOfAPatient();
        Check.finish();
    }

    /** "At most 10", "IllegalStateException when there are 10." */
    private static void atMostTen() {
        Story story = Story.begin().times(9, (x, p) -> x.patient());
        story.answers("the 10th", 9, x -> x.patient());
        story.then(x -> x.patient()).refuses("the 11th", Check.STATE, x -> x.patient());
        Story.begin().times(10, (x, p) -> Check.locked(x)).refuses("all locked", Check.STATE, x -> x.patient());
    }

    /** "IllegalArgumentException when group or rhesus is none". */
    private static void groupAndRhesusOfASample() {
        Story fresh = Story.begin().then(x -> x.patient());
        Story sampled = fresh.then(x -> x.sample(0, Check.A, 1), x -> x.pass(10));
        Story confirmed = sampled.then(x -> x.sample(0, Check.A, 1), x -> x.pass(10));
        for (Story story : new Story[] {fresh, sampled, confirmed}) {
            story.bounds("group", Check.ARGUMENT, 0, 3, (x, n) -> x.sample(0, n, 0));
            story.bounds("rhesus", Check.ARGUMENT, 0, 1, (x, n) -> x.sample(0, Check.A, n));
        }
    }

    private static void checkWho(String what, Story story, int status, int group, int rhesus) {
        story.answers(what + ": status", status, x -> x.who(0, 0)).answers(what + ": group", group, x -> x.who(0, 1));
        story.answers(what + ": rhesus", rhesus, x -> x.who(0, 2));
    }

    /** "A second one just like the one before CONFIRMS them (so does each further one)". */
    private static void theFirstAndTheSecondSample() {
        for (int type = 0; type < 8; type++) {
            int group = type / 2;
            int rhesus = type % 2;
            Story story = Story.begin().then(x -> x.patient());
            checkWho("no sample", story, 0, Check.NONE, Check.NONE);
            story.answers("the first", 0, x -> x.sample(0, group, rhesus));
            Story once = story.then(x -> x.sample(0, group, rhesus));
            checkWho("one sample", once, 0, Check.NONE, Check.NONE);
            once.answers("the second", 1, x -> x.sample(0, group, rhesus));
            Story twice = once.then(x -> x.sample(0, group, rhesus));
            checkWho("two samples", twice, 1, group, rhesus);
            twice.answers("the third", 1, x -> x.sample(0, group, rhesus));
            checkWho("three samples", twice.then(x -> x.sample(0, group, rhesus)), 1, group, rhesus);
        }
    }

    /** "One that is another than the one before LOCKS the patient": each pair of samples. */
    private static void oneThatIsAnotherThanTheOneBefore() {
        for (int n = 0; n < 64; n++) {
            int[] one = {n / 16, n / 8 % 2};
            int[] other = {n / 2 % 4, n % 2};
            boolean like = one[0] == other[0] && one[1] == other[1];
            Story story = Story.begin().then(x -> x.patient(), x -> x.sample(0, one[0], one[1]));
            story.answers("samples " + n, like ? 1 : 2, x -> x.sample(0, other[0], other[1]));
            checkWho("samples " + n, story.then(x -> x.sample(0, other[0], other[1])), like ? 1 : 2,
                like ? one[0] : Check.NONE, like ? one[1] : Check.NONE);
        }
    }

    /** "Group and rhesus are not confirmed then". */
    private static void aConfirmedOneIsLockedToo() {
        Story story = Story.begin().then(x -> Check.confirmed(x, Check.A, 1), x -> x.sample(0, Check.A, 1));
        story.answers("another rhesus", 2, x -> x.sample(0, Check.A, 0));
        story.answers("another group", 2, x -> x.sample(0, Check.AB, 1));
        checkWho("locked", story.then(x -> x.sample(0, Check.A, 0)), 2, Check.NONE, Check.NONE);
        checkWho("locked", story.then(x -> x.sample(0, Check.AB, 1)), 2, Check.NONE, Check.NONE);
    }

    /** "IllegalStateException when the patient is locked." */
    private static void noSampleOfALockedOne() {
        Story story = Story.begin().then(x -> Check.locked(x), x -> x.patient(), x -> x.pass(10));
        for (int type = 0; type < 8; type++) {
            int group = type / 2;
            int rhesus = type % 2;
            story.refuses("a sample of a locked one", Check.STATE, x -> x.sample(0, group, rhesus));
        }
        story.takes("another one's", x -> x.sample(1, Check.A, 0));
        story.then(x -> x.pass(50000)).refuses("however late", Check.STATE, x -> x.sample(0, Check.B, 0));
    }

    /** A sample that is fresh no more is "the one before" still. */
    private static void noLimitOfTimeBetweenSamples() {
        Story story = Story.begin().then(x -> x.patient(), x -> x.sample(0, Check.A, 0), x -> x.pass(50000));
        story.answers("like it", 1, x -> x.sample(0, Check.A, 0)).answers("another", 2, x -> x.sample(0, Check.B, 0));
    }

    /** "IllegalArgumentException when group or rhesus is none". */
    private static void groupAndRhesusOfAnUnlocking() {
        Story story = Story.begin().then(x -> Check.locked(x), x -> x.pass(10));
        story.bounds("group", Check.ARGUMENT, 0, 3, (x, n) -> x.unlock(0, n, 0));
        story.bounds("rhesus", Check.ARGUMENT, 0, 1, (x, n) -> x.unlock(0, 0, n));
    }

    /** "IllegalStateException when the patient is not locked." */
    private static void onlyALockedOneIsUnlocked() {
        Story story = Story.begin().then(x -> x.patient());
        story.refuses("no sample", Check.STATE, x -> x.unlock(0, 0, 0));
        story.then(x -> x.sample(0, Check.B, 1)).refuses("one sample", Check.STATE, x -> x.unlock(0, Check.B, 1));
        Story confirmed = Story.begin().then(x -> Check.confirmed(x, Check.B, 1));
        confirmed.refuses("confirmed", Check.STATE, x -> x.unlock(0, Check.B, 1));
        confirmed.refuses("confirmed", Check.STATE, x -> x.unlock(0, Check.A, 0));
        Story.begin().then(x -> Check.locked(x)).takes("locked", x -> x.unlock(0, Check.O, 0));
        Story.begin().then(x -> Check.locked(x), x -> x.unlock(0, Check.O, 0))
            .refuses("unlocked already", Check.STATE, x -> x.unlock(0, Check.O, 0));
    }

    /** "Group and rhesus being confirmed by this (which also counts as what the latest sample told". */
    private static void whatUnlockedCountsAsTheLatestSample() {
        for (int n = 0; n < 64; n++) {
            int[] one = {n / 16, n / 8 % 2};
            int[] next = {n / 2 % 4, n % 2};
            Story story = Story.begin().then(x -> Check.locked(x), x -> x.unlock(0, one[0], one[1]));
            checkWho("unlocked " + n, story, 1, one[0], one[1]);
            int due = one[0] == next[0] && one[1] == next[1] ? 1 : 2;
            story.answers("the next sample " + n, due, x -> x.sample(0, next[0], next[1]));
        }
    }

    /** "But its minute stays": a sample is fresh for 4320 minutes, unlocked or not. */
    private static void theMinuteOfTheSampleStays() {
        Story story = Story.begin().then(x -> Check.plasma(x, 0), x -> x.patient(), x -> x.sample(0, Check.A, 0),
            x -> x.pass(100), x -> x.sample(0, Check.B, 0));
        for (int before : new int[] {0, 1, 4318, 4319}) {
            Story unlocked = story.then(x -> x.pass(before), x -> x.unlock(0, Check.O, 0));
            unlocked.then(x -> x.pass(4319 - before)).answers("its last minute", 1, x -> x.issue(0, 0));
            unlocked.then(x -> x.pass(4320 - before)).refuses("fresh no more", Check.STATE, x -> x.issue(0, 0));
        }
        Story late = story.then(x -> x.pass(4320), x -> x.unlock(0, Check.O, 0));
        late.refuses("unlocked too late", Check.STATE, x -> x.issue(0, 0));
        late.then(x -> x.sample(0, Check.O, 0)).answers("a new sample", 1, x -> x.issue(0, 0));
    }

    /** "IllegalArgumentException when there is no such antigen." */
    private static void antigensOfAntibodies() {
        Story story = Story.begin().then(x -> x.patient(), x -> x.patient(), x -> x.antibody(0, 3));
        story.bounds("antigen", Check.ARGUMENT, 0, 7, (x, n) -> x.antibody(0, n));
        story.refuses("antigen 32", Check.ARGUMENT, x -> x.antibody(0, 32));
        story.then(x -> x.antibody(0, 0)).answers("the lowest bit", 9, x -> x.who(0, 3));
        story.then(x -> x.antibody(0, 7)).answers("the highest bit", 136, x -> x.who(0, 3));
        story.answers("another one's", 0, x -> x.who(1, 3));
    }

    /** "How many antigens there are against which the patient has any": from one to all eight. */
    private static void howManyAntibodies() {
        Story story = Story.begin().then(x -> x.patient());
        for (int a = 0; a < 8; a++) {
            int antigen = a;
            story.answers("a new one", a + 1, x -> x.antibody(0, antigen));
            story = story.then(x -> x.antibody(0, antigen));
            story.answers("the same again", a + 1, x -> x.antibody(0, antigen));
            story.answers("as bits", (2 << a) - 1, x -> x.who(0, 3));
        }
        for (int a = 0; a < 8; a++) {
            int antigen = a;
            story.answers("all are there", 8, x -> x.antibody(0, antigen));
        }
    }

    /** "IllegalArgumentException when marks is not 0 .. 7", "what they were". */
    private static void marksOfNeeds() {
        Story story = Story.begin().then(x -> x.patient(), x -> x.patient(), x -> x.need(0, 5));
        story.bounds("marks", Check.ARGUMENT, 0, 7, (x, n) -> x.need(0, n));
        story.answers("what they were", 5, x -> x.need(0, 0)).answers("another one's", 0, x -> x.need(1, 7));
        story.then(x -> x.need(0, 7)).answers("all", 7, x -> x.who(0, 4)).answers("all", 7, x -> x.need(0, 7));
        story.then(x -> x.need(0, 0)).answers("none", 0, x -> x.who(0, 4)).answers("none", 0, x -> x.need(0, 1));
        story.then(x -> x.need(0, 2)).answers("these alone", 2, x -> x.who(0, 4));
    }

    /** "IndexOutOfBoundsException when there is no such what." */
    private static void whatOfAPatient() {
        Story story = Story.begin().then(x -> x.patient(), x -> Check.confirmed(x, Check.A, 1), x -> Check.locked(x))
            .times(3, (x, p) -> x.antibody(p, p)).times(3, (x, p) -> x.need(p, p + 1)).then(x -> x.pass(10));
        for (int status = 0; status < 3; status++) {
            int p = status;
            story.bounds("what in status " + p, Check.INDEX, 0, 4, (x, n) -> x.who(p, n));
        }
    }
}
