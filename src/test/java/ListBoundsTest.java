/** The boundaries of promises 25 to 30: offer, stock, expiring, lookback, received, count. */
public final class ListBoundsTest {
    public static void main(String[] args) {
        kindsOfAnOffer();
        offersOfTheEmptyAndTheFullStore();
        offersByExpiryThenNumber();
        offersOfReadyUnits();
        offersWithoutAReason();
        argumentsOfStock();
        stockOfTheFullStore();
        stockOfReadyUnits();
        minutesOfExpiring();
        expiringInSoManyMinutes();
        expiringOfTheEmptyAndTheFullStore();
        expiringStoredOrReserved();
        donorsOfALookback();
        lookbackToNobodyAndToAll();
        lookbackInTheOrderOfTheFirstIssue();
        lookbackWhateverBecameOfIt();
        receivedNothingAndAll();
        receivedInTheOrderOfTheLatestIssue();
        receivedWhateverBecameOfIt();
        argumentsOfCount();
        countOfTheFullStore();
        countOfEachState();
        Check.finish();
    }

    private static Story patient() {
        return Story.begin().then(x -> Check.confirmed(x, Check.O, 0));
    }

    private static int[] upTo(int count) {
        int[] numbers = new int[count];
        for (int n = 0; n < count; n++) {
            numbers[n] = n;
        }
        return numbers;
    }

    private static int[] downFrom(int count) {
        int[] numbers = new int[count];
        for (int n = 0; n < count; n++) {
            numbers[n] = count - 1 - n;
        }
        return numbers;
    }

    /** "IllegalArgumentException when there is no such kind." */
    private static void kindsOfAnOffer() {
        Story story = Story.everyState(Check.PLASMA).then(x -> x.need(0, 2), x -> x.antibody(0, 1));
        story.bounds("kind", Check.ARGUMENT, 0, 3, (x, n) -> x.offer(0, n, 0));
        for (int i : new int[] {-1, 48, Integer.MIN_VALUE, Integer.MAX_VALUE}) {
            story.refuses("kind 4 with any i", Check.ARGUMENT, x -> x.offer(0, 4, i));
        }
    }

    /** "NONE when there are not so many." */
    private static void offersOfTheEmptyAndTheFullStore() {
        for (int k = 0; k < 4; k++) {
            int kind = k;
            patient().lists("none", (x, i) -> x.offer(0, kind, i));
        }
        for (int count : new int[] {1, 2, 47, 48}) {
            patient().times(count, (x, u) -> Check.plasma(x, 0))
                .lists("of " + count, (x, i) -> x.offer(0, Check.PLASMA, i), upTo(count));
        }
    }

    /** "By expiry, then number". */
    private static void offersByExpiryThenNumber() {
        patient().times(48, (x, u) -> x.unit(0, Check.PLATELETS, Check.O, 0, 100 - u))
            .lists("backwards", (x, i) -> x.offer(0, Check.PLATELETS, i), downFrom(48));
        int[] lives = {2, 1, 2, 1, 60000, 1, 59999, 60000};
        patient().times(lives.length, (x, u) -> x.unit(0, Check.PLASMA, Check.O, 0, lives[u]))
            .lists("of one expiry", (x, i) -> x.offer(0, Check.PLASMA, i), 1, 3, 5, 0, 2, 6, 4, 7);
        Story later = patient().then(x -> x.unit(0, Check.PLASMA, Check.O, 0, 11), x -> x.pass(1),
            x -> x.unit(0, Check.PLASMA, Check.O, 0, 10), x -> x.unit(0, Check.PLASMA, Check.O, 0, 9));
        later.lists("it is the expiry, not the life", (x, i) -> x.offer(0, Check.PLASMA, i), 2, 0, 1);
    }

    /** "That is ready": each state, the last minute, the quarantine. */
    private static void offersOfReadyUnits() {
        for (int k = 0; k < 3; k++) {
            int kind = k;
            Story story = Story.everyState(kind);
            int[] due = kind == Check.PLATELETS ? new int[] {0, 6} : new int[] {6, 0};
            story.lists("stored ones", (x, i) -> x.offer(0, kind, i), due);
            story.then(x -> x.quarantine(1, true)).lists("barred", (x, i) -> x.offer(0, kind, i));
            story.then(x -> x.pass(19989)).answers("the last minute", 0, x -> x.offer(0, kind, 0));
            story.then(x -> x.pass(19990)).lists("expired", (x, i) -> x.offer(0, kind, i));
        }
        Story plasma = Story.everyState(Check.PLASMA);
        plasma.then(x -> x.pass(4309)).lists("reserved", (x, i) -> x.offer(0, Check.PLASMA, i), 0);
        plasma.then(x -> x.pass(4310)).lists("reserved no more", (x, i) -> x.offer(0, Check.PLASMA, i), 0, 1);
    }

    /** "And for which there is no reason". */
    private static void offersWithoutAReason() {
        Story story = Story.begin().then(x -> x.patient()).times(32, (x, n) -> x.unit(0, n / 8, n % 8 / 2, n % 2, 100));
        story.lists("red cells to one not confirmed", (x, i) -> x.offer(0, Check.RED, i), 0);
        story.lists("plasma to one not confirmed", (x, i) -> x.offer(0, Check.PLASMA, i), 14, 15);
        story.lists("platelets to one not confirmed", (x, i) -> x.offer(0, Check.PLATELETS, i), 22, 23);
        story.lists("whole blood", (x, i) -> x.offer(0, Check.WHOLE, i));
        Story ab = story.times(2, (x, n) -> x.sample(0, Check.AB, 1));
        ab.lists("red cells to AB", (x, i) -> x.offer(0, Check.RED, i), 0, 1, 2, 3, 4, 5, 6, 7);
        ab.lists("plasma to AB", (x, i) -> x.offer(0, Check.PLASMA, i), 14, 15);
        ab.lists("whole blood to AB", (x, i) -> x.offer(0, Check.WHOLE, i));
        ab.then(x -> x.antibody(0, 7)).lists("antibodies", (x, i) -> x.offer(0, Check.RED, i));
        ab.then(x -> x.need(0, 1)).lists("needs", (x, i) -> x.offer(0, Check.RED, i));
    }

    /** "NONE for any group or rhesus. IllegalArgumentException when one is none." */
    private static void argumentsOfStock() {
        Story story = Story.begin().times(32, (x, n) -> x.unit(0, n / 8, n % 8 / 2, n % 2, 100));
        story.bounds("kind", Check.ARGUMENT, 0, 3, (x, n) -> x.stock(n, 0, 0));
        story.bounds("kind", Check.ARGUMENT, 0, 3, (x, n) -> x.stock(n, Check.NONE, Check.NONE));
        story.bounds("group", Check.ARGUMENT, Check.NONE, 3, (x, n) -> x.stock(0, n, 0));
        story.bounds("group", Check.ARGUMENT, Check.NONE, 3, (x, n) -> x.stock(0, n, Check.NONE));
        story.bounds("rhesus", Check.ARGUMENT, Check.NONE, 1, (x, n) -> x.stock(0, 0, n));
        story.bounds("rhesus", Check.ARGUMENT, Check.NONE, 1, (x, n) -> x.stock(0, Check.NONE, n));
        for (int n = 0; n < 60; n++) {
            int kind = n / 15;
            int group = n % 15 / 3 - 1;
            int rhesus = n % 3 - 1;
            int due = (group == Check.NONE ? 4 : 1) * (rhesus == Check.NONE ? 2 : 1);
            story.answers("stock " + kind + ", " + group + ", " + rhesus, due, x -> x.stock(kind, group, rhesus));
        }
    }

    private static void stockOfTheFullStore() {
        Story story = Story.begin().times(48, (x, u) -> x.unit(0, Check.WHOLE, Check.B, 1, 100));
        story.answers("all", 48, x -> x.stock(Check.WHOLE, Check.B, 1));
        story.answers("all", 48, x -> x.stock(Check.WHOLE, Check.NONE, Check.NONE));
        story.answers("another group", 0, x -> x.stock(Check.WHOLE, Check.A, 1));
        story.answers("another rhesus", 0, x -> x.stock(Check.WHOLE, Check.B, 0));
        story.answers("another kind", 0, x -> x.stock(Check.RED, Check.B, 1));
    }

    /** "Are ready": each state, the last minute, the quarantine. */
    private static void stockOfReadyUnits() {
        for (int k = 0; k < 3; k++) {
            int kind = k;
            Story story = Story.everyState(kind);
            story.answers("stored ones", 2, x -> x.stock(kind, Check.NONE, Check.NONE));
            story.then(x -> x.quarantine(1, true)).answers("barred", 0, x -> x.stock(kind, Check.NONE, Check.NONE));
            // The reservation is over by then; only the product of platelets has a limit that is not.
            int left = kind == Check.PLATELETS ? 3 : 2;
            story.then(x -> x.pass(19989)).answers("the last minute", left, x -> x.stock(kind, Check.NONE, Check.NONE));
            story.then(x -> x.pass(19990)).answers("expired", 0, x -> x.stock(kind, Check.NONE, Check.NONE));
        }
    }

    /** "IllegalArgumentException when minutes is not 0 .. 60000." */
    private static void minutesOfExpiring() {
        Story story = Story.everyState(Check.PLASMA);
        for (int i : new int[] {0, -1, Integer.MIN_VALUE, Integer.MAX_VALUE}) {
            story.bounds("minutes", Check.ARGUMENT, 0, 60000, (x, n) -> x.expiring(n, i));
        }
    }

    /** "Not expired, but will be in so many minutes". */
    private static void expiringInSoManyMinutes() {
        for (int life : new int[] {1, 100, 60000}) {
            Story story = Story.begin().then(x -> x.pass(13), x -> x.unit(0, Check.RED, Check.O, 0, life));
            story.lists("one minute too few", (x, i) -> x.expiring(life - 1, i));
            story.lists("just so many", (x, i) -> x.expiring(life, i), 0);
            story.lists("in no minute", (x, i) -> x.expiring(0, i));
            Story last = story.then(x -> x.pass(life / 2), x -> x.pass(life - life / 2 - 1));
            last.lists("the last minute, in none", (x, i) -> x.expiring(0, i));
            last.lists("the last minute, in one", (x, i) -> x.expiring(1, i), 0);
            last.then(x -> x.pass(1)).lists("expired", (x, i) -> x.expiring(60000, i));
        }
    }

    /** "By expiry, then number; NONE when there are not so many." */
    private static void expiringOfTheEmptyAndTheFullStore() {
        Story.begin().lists("none", (x, i) -> x.expiring(60000, i));
        Story.begin().times(48, (x, u) -> x.unit(u % 16, u % 4, 0, 0, 100))
            .lists("of one expiry", (x, i) -> x.expiring(100, i), upTo(48));
        Story.begin().times(48, (x, u) -> x.unit(u % 16, u % 4, 0, 0, 100 - u))
            .lists("backwards", (x, i) -> x.expiring(60000, i), downFrom(48))
            .lists("the last two", (x, i) -> x.expiring(54, i), 47, 46);
    }

    /** "That is stored or reserved". */
    private static void expiringStoredOrReserved() {
        Story story = Story.everyState(Check.PLASMA);
        story.lists("in 1430 minutes", (x, i) -> x.expiring(1430, i), 6);
        story.lists("in 20000 minutes", (x, i) -> x.expiring(20000, i), 6, 0, 1);
        story.then(x -> x.quarantine(1, true)).lists("barred too", (x, i) -> x.expiring(20000, i), 6, 0, 1);
        story.then(x -> x.giveBack(2)).lists("given back", (x, i) -> x.expiring(20000, i), 6, 0, 1, 2);
    }

    /** "IllegalArgumentException when there is no such donor." */
    private static void donorsOfALookback() {
        Story story = patient().then(x -> Check.plasma(x, 0), x -> Check.plasma(x, 15), x -> x.issue(0, 0));
        for (int i : new int[] {0, -1, Integer.MIN_VALUE, Integer.MAX_VALUE}) {
            story.bounds("donor", Check.ARGUMENT, 0, 15, (x, n) -> x.lookback(n, i));
        }
        story.refuses("donor 32", Check.ARGUMENT, x -> x.lookback(32, 0));
        story.lists("the first donor", (x, i) -> x.lookback(0, i), 0);
        story.lists("the last donor", (x, i) -> x.lookback(15, i));
        story.then(x -> x.issue(0, 1)).lists("the last donor", (x, i) -> x.lookback(15, i), 0);
    }

    /** "NONE when there are not so many": from nobody to all ten, each only once. */
    private static void lookbackToNobodyAndToAll() {
        Story story = Story.begin().times(10, (x, p) -> x.patient()).times(48, (x, u) -> Check.plasma(x, 5));
        story.lists("nobody", (x, i) -> x.lookback(5, i));
        story.times(10, (x, p) -> x.emergency(9 - p, p, 1)).lists("all", (x, i) -> x.lookback(5, i), downFrom(10));
        story.times(48, (x, u) -> x.emergency(u % 10, u, 1)).lists("all", (x, i) -> x.lookback(5, i), upTo(10));
        story.times(48, (x, u) -> x.emergency(4, u, 1)).lists("one", (x, i) -> x.lookback(5, i), 4);
        story.times(48, (x, u) -> x.emergency(4, u, 1)).lists("another donor", (x, i) -> x.lookback(4, i));
    }

    /** "In the order of the first such issue": one that was given back is none. */
    private static void lookbackInTheOrderOfTheFirstIssue() {
        Story story = Story.begin().times(3, (x, p) -> x.patient()).times(6, (x, u) -> Check.plasma(x, u / 5))
            .then(x -> x.emergency(0, 5, 1), x -> x.emergency(2, 3, 1), x -> x.emergency(1, 2, 1),
                x -> x.emergency(0, 1, 1), x -> x.emergency(2, 0, 1));
        story.lists("by the first", (x, i) -> x.lookback(0, i), 2, 1, 0);
        story.lists("of another donor", (x, i) -> x.lookback(1, i), 0);
        story.then(x -> x.giveBack(3)).lists("the first was given back", (x, i) -> x.lookback(0, i), 1, 0, 2);
        story.then(x -> x.giveBack(0)).lists("the latest was given back", (x, i) -> x.lookback(0, i), 2, 1, 0);
        story.then(x -> x.giveBack(2)).lists("the only one was given back", (x, i) -> x.lookback(0, i), 2, 0);
        story.then(x -> x.giveBack(2), x -> x.emergency(1, 2, 1))
            .lists("and issued again", (x, i) -> x.lookback(0, i), 2, 0, 1);
        story.then(x -> x.giveBack(2), x -> x.emergency(2, 2, 1))
            .lists("and issued to another", (x, i) -> x.lookback(0, i), 2, 0);
    }

    /** "Was issued and not given back (whatever became of it)". */
    private static void lookbackWhateverBecameOfIt() {
        Story story = Story.everyState(Check.PLASMA).then(x -> x.reserve(1, 0));
        story.lists("issued and transfused", (x, i) -> x.lookback(1, i), 0);
        story.then(x -> x.giveBack(2)).lists("transfused", (x, i) -> x.lookback(1, i), 0);
        Story one = Story.begin().then(x -> x.patient(), x -> Check.plasma(x, 1));
        one.then(x -> x.reserve(0, 0)).lists("reserved alone", (x, i) -> x.lookback(1, i));
        one.then(x -> x.reserve(0, 0), x -> x.discard(0, 1)).lists("discarded then", (x, i) -> x.lookback(1, i));
        Story issued = one.then(x -> x.emergency(0, 0, 1));
        issued.then(x -> x.discard(0, 1)).lists("discarded", (x, i) -> x.lookback(1, i), 0);
        issued.then(x -> x.pass(50000)).lists("long ago", (x, i) -> x.lookback(1, i), 0);
        issued.then(x -> x.giveBack(0), x -> x.reserve(0, 0)).lists("reserved then", (x, i) -> x.lookback(1, i));
        issued.then(x -> x.giveBack(0), x -> x.discard(0, 1)).lists("discarded then", (x, i) -> x.lookback(1, i));
    }

    /** "NONE when there are not so many": from nothing to all 48. */
    private static void receivedNothingAndAll() {
        Story story = Story.begin().times(2, (x, p) -> x.patient()).times(48, (x, u) -> Check.plasma(x, 0));
        story.lists("nothing", (x, i) -> x.received(0, i));
        Story all = story.times(48, (x, u) -> x.emergency(0, 47 - u, 1));
        all.lists("all", (x, i) -> x.received(0, i), downFrom(48)).lists("another one's", (x, i) -> x.received(1, i));
        Story one = story.then(x -> x.emergency(1, 47, 1));
        one.lists("one", (x, i) -> x.received(1, i), 47).lists("another one's", (x, i) -> x.received(0, i));
    }

    /** "In the order of their (latest) issue". */
    private static void receivedInTheOrderOfTheLatestIssue() {
        Story story = Story.begin().times(2, (x, p) -> x.patient()).times(4, (x, u) -> Check.plasma(x, 0))
            .then(x -> x.emergency(0, 2, 1), x -> x.emergency(0, 0, 1), x -> x.emergency(0, 3, 1));
        story.lists("by issue", (x, i) -> x.received(0, i), 2, 0, 3);
        Story back = story.then(x -> x.giveBack(2));
        back.lists("the first given back", (x, i) -> x.received(0, i), 0, 3);
        back.then(x -> x.emergency(0, 2, 1)).lists("issued again", (x, i) -> x.received(0, i), 0, 3, 2);
        Story other = back.then(x -> x.emergency(1, 2, 1));
        other.lists("issued to another", (x, i) -> x.received(0, i), 0, 3);
        other.lists("issued to another", (x, i) -> x.received(1, i), 2);
        Story home = other.then(x -> x.giveBack(2), x -> x.emergency(0, 2, 1));
        home.lists("and to the first again", (x, i) -> x.received(0, i), 0, 3, 2);
        home.lists("and to the first again", (x, i) -> x.received(1, i));
    }

    private static void receivedWhateverBecameOfIt() {
        Story story = Story.everyState(Check.PLASMA);
        story.lists("issued and transfused", (x, i) -> x.received(0, i), 2, 3);
        story.then(x -> x.discard(2, 1)).lists("discarded", (x, i) -> x.received(0, i), 2, 3);
        story.then(x -> x.discard(1, 1)).lists("reserved, then discarded", (x, i) -> x.received(0, i), 2, 3);
        story.then(x -> x.giveBack(2), x -> x.reserve(0, 2)).lists("given back", (x, i) -> x.received(0, i), 3);
        story.then(x -> x.giveBack(2), x -> x.discard(2, 1)).lists("given back", (x, i) -> x.received(0, i), 3);
        story.then(x -> x.pass(50000)).lists("long ago", (x, i) -> x.received(0, i), 2, 3);
    }

    /** "IllegalArgumentException when one is none." */
    private static void argumentsOfCount() {
        Story story = Story.everyState(Check.PLASMA);
        story.bounds("kind", Check.ARGUMENT, 0, 3, (x, n) -> x.count(n, 0));
        story.bounds("state", Check.ARGUMENT, 0, 5, (x, n) -> x.count(1, n));
        story.refuses("neither", Check.ARGUMENT, x -> x.count(Check.NONE, Check.NONE));
    }

    private static void countOfTheFullStore() {
        Story story = Story.begin().times(48, (x, u) -> x.unit(0, Check.WHOLE, Check.O, 0, 1));
        story.answers("all", 48, x -> x.count(Check.WHOLE, 0)).answers("none", 0, x -> x.count(Check.RED, 0));
        story.then(x -> x.pass(1)).answers("all expired", 48, x -> x.count(Check.WHOLE, 0));
        story.then(x -> x.quarantine(0, true)).answers("all barred", 48, x -> x.count(Check.WHOLE, 0));
        story.times(48, (x, u) -> x.discard(u, 1)).answers("all discarded", 48, x -> x.count(Check.WHOLE, 4))
            .answers("none stored", 0, x -> x.count(Check.WHOLE, 0));
    }

    /** "How many units of a kind are in a state." */
    private static void countOfEachState() {
        int[] due = {2, 1, 1, 1, 1, 1};
        for (int n = 0; n < 18; n++) {
            int kind = n / 6;
            int state = n % 6;
            Story story = Story.everyState(kind);
            story.answers("count", due[state], x -> x.count(kind, state));
            story.answers("another kind", 0, x -> x.count(Check.WHOLE, state));
        }
        Story plasma = Story.everyState(Check.PLASMA);
        plasma.then(x -> x.pass(4309)).answers("reserved", 1, x -> x.count(Check.PLASMA, 1));
        plasma.then(x -> x.pass(4310)).answers("reserved no more", 0, x -> x.count(Check.PLASMA, 1))
            .answers("but stored", 3, x -> x.count(Check.PLASMA, 0));
    }
}
