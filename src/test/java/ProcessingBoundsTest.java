/** The boundaries of promises 5 and 6, and of processing and pooling under 'Terms'. */
public final class ProcessingBoundsTest {
    private static final int[] LIMITS = {7200, 1440, 20160, 1440};
    private static final int[] MARKS = {0, 1, 2, 4};

    public static void main(String[] args) {
        hows();
        kindsOfEachHow();
        onlyReadyUnits();
        theLastMinuteBeforeExpiry();
        roomForASplit();
        roomForOneProduct();
        limitsOfSplitting();
        limitsOfOneProduct();
        limitIsFromNow();
        marksAddUp();
        productsAreAsTheSource();
        aUnitIsNotPooledWithItself();
        onlyReadyUnitsArePooled();
        poolingInTheLastMinute();
        roomForAPool();
        onlyPlateletsOfOneGroupAndRhesus();
        theEarlierExpiryOfBoth();
        antigensOfAPool();
        marksOfAPool();
        donorsOfAPool();
        Check.finish();
    }

    /** A story of one unit, of a kind that this how is for. */
    private static Story suiting(int how, int life) {
        int[] kinds = {Check.WHOLE, Check.RED, Check.PLATELETS, Check.PLASMA};
        return Story.begin().then(x -> x.unit(2, kinds[how], Check.B, 1, life));
    }

    /** "IllegalArgumentException when there is no such how". */
    private static void hows() {
        Story story = Story.begin().then(x -> x.unit(0, Check.WHOLE, Check.O, 0, 100), x -> Check.plasma(x, 0));
        story.bounds("how", Check.ARGUMENT, 0, 3, (x, n) -> x.process(n == 3 ? 1 : 0, n));
    }

    /** "UnsupportedOperationException when it is not for its kind." */
    private static void kindsOfEachHow() {
        String[] kindsThatSuit = {"...y", "y...", "y.y.", ".y.."};
        for (int n = 0; n < 16; n++) {
            int how = n / 4;
            int kind = n % 4;
            Story story = Story.begin().then(x -> x.unit(0, kind, Check.O, 0, 100), x -> x.pass(1));
            String what = "how " + how + " of kind " + kind;
            if (kindsThatSuit[how].charAt(kind) == 'y') {
                story.answers(what, 1, x -> x.process(0, how));
            } else {
                story.refuses(what, Check.UNSUPPORTED, x -> x.process(0, how));
            }
        }
    }

    /** "IllegalStateException when it is not ready": each state, and a donor in quarantine. */
    private static void onlyReadyUnits() {
        int[] ways = {1, 3, 2};
        for (int k = 0; k < 3; k++) {
            int how = ways[k];
            Story story = Story.everyState(k);
            story.onlyInStates("kind " + k, (x, u) -> x.process(u, how), 0);
            story.takes("a product again", x -> x.process(6, how));
            story.then(x -> x.quarantine(1, true)).refuses("barred", Check.STATE, x -> x.process(0, how));
            story.then(x -> x.quarantine(2, true)).takes("another donor", x -> x.process(0, how));
            story.then(x -> x.quarantine(1, true), x -> x.quarantine(1, false))
                .takes("barred no more", x -> x.process(0, how));
            story.then(x -> x.pass(4309)).refuses("reserved", Check.STATE, x -> x.process(1, how));
            story.then(x -> x.pass(4310)).takes("the reservation is over", x -> x.process(1, how));
        }
        Story whole = suiting(0, 100);
        whole.then(x -> x.process(0, 0)).refuses("whole blood, used up", Check.STATE, x -> x.process(0, 0));
        whole.then(x -> x.discard(0, 1)).refuses("whole blood, discarded", Check.STATE, x -> x.process(0, 0));
        whole.then(x -> x.quarantine(2, true)).refuses("whole blood, barred", Check.STATE, x -> x.process(0, 0));
    }

    /** "An EXPIRY, the minute from which on it is EXPIRED". */
    private static void theLastMinuteBeforeExpiry() {
        for (int h = 0; h < 4; h++) {
            int how = h;
            suiting(how, 1).answers("a life of one minute", 1, x -> x.process(0, how));
            suiting(how, 1).then(x -> x.pass(1)).refuses("that is over", Check.STATE, x -> x.process(0, how));
            Story story = suiting(how, 60000).then(x -> x.pass(50000));
            story.then(x -> x.pass(9999)).answers("the last minute", 1, x -> x.process(0, how));
            story.then(x -> x.pass(10000)).refuses("expired", Check.STATE, x -> x.process(0, how));
        }
    }

    /** "Or there would be more than 48": splitting makes three. */
    private static void roomForASplit() {
        for (int count = 1; count <= 48; count++) {
            Story story = Story.begin().times(count, (x, u) -> x.unit(0, Check.WHOLE, Check.O, 0, 100));
            if (count <= 45) {
                story.answers("a split with " + count, count, x -> x.process(0, 0));
            } else {
                story.refuses("a split with " + count, Check.STATE, x -> x.process(0, 0));
            }
        }
        Story full = Story.begin().times(45, (x, u) -> x.unit(0, Check.WHOLE, Check.O, 0, 100))
            .then(x -> x.process(0, 0));
        full.answers("the last product", Check.PLATELETS, x -> x.of(47, 1));
        full.refuses("a unit more", Check.STATE, x -> x.unit(0, 0, 0, 0, 1));
    }

    /** "Or there would be more than 48": all other ways make one. */
    private static void roomForOneProduct() {
        int[] ways = {1, 3, 2};
        for (int k = 0; k < 3; k++) {
            int kind = k;
            int how = ways[k];
            Story story = Story.begin().times(47, (x, u) -> x.unit(0, kind, Check.O, 0, 100));
            story.answers("the 48th", 47, x -> x.process(0, how));
            story.then(x -> x.process(0, how)).refuses("the 49th", Check.STATE, x -> x.process(1, how));
            story.then(x -> x.unit(0, 0, 0, 0, 1)).refuses("the 49th", Check.STATE, x -> x.process(1, how));
        }
    }

    /** "Its expiry or a LIMIT, whichever is earlier": "red cells, plasma (no limit), platelets (limit 7200)". */
    private static void limitsOfSplitting() {
        for (int life : new int[] {1, 7199, 7200, 7201, 60000}) {
            Story story = suiting(0, life).then(x -> x.process(0, 0));
            story.answers("red cells of " + life, life, x -> x.of(1, 5));
            story.answers("plasma of " + life, life, x -> x.of(2, 5));
            story.answers("platelets of " + life, Math.min(life, 7200), x -> x.of(3, 5));
            for (int i = 0; i < 3; i++) {
                int product = i;
                story.answers("in this order", product, x -> x.of(1 + product, 1));
            }
        }
    }

    /** "WASHING: limit 1440. IRRADIATING: limit 20160. THAWING: limit 1440." */
    private static void limitsOfOneProduct() {
        for (int h = 1; h < 4; h++) {
            int how = h;
            int limit = LIMITS[how];
            for (int life : new int[] {1, limit - 1, limit, limit + 1, 60000}) {
                suiting(how, life).then(x -> x.process(0, how))
                    .answers("how " + how + " of " + life, Math.min(life, limit), x -> x.of(1, 5))
                    .answers("the source's own expiry", life, x -> x.of(0, 5));
            }
        }
        Story red = Story.begin().then(x -> Check.redCells(x, 0), x -> x.process(0, 2));
        red.answers("irradiated red cells", 20160, x -> x.of(1, 5));
    }

    /** "A LIMIT (so many minutes from now)". */
    private static void limitIsFromNow() {
        for (int h = 0; h < 4; h++) {
            int how = h;
            int limit = LIMITS[how];
            int product = how == 0 ? 3 : 1;
            Story story = suiting(how, 30000);
            story.then(x -> x.pass(30000 - limit - 1), x -> x.process(0, how))
                .answers("the limit is nearer", 29999, x -> x.of(product, 5));
            story.then(x -> x.pass(30000 - limit), x -> x.process(0, how))
                .answers("both at once", 30000, x -> x.of(product, 5));
            story.then(x -> x.pass(30000 - limit + 1), x -> x.process(0, how))
                .answers("the expiry is nearer", 30000, x -> x.of(product, 5));
            story.then(x -> x.pass(29999), x -> x.process(0, how), x -> x.pass(1))
                .answers("expired with its source", 0, x -> x.stock(x.of(product, 1), Check.NONE, Check.NONE));
        }
    }

    /** "Its marks, if nothing else is said": a mark that is there already stays one mark. */
    private static void marksAddUp() {
        Story red = Story.begin().then(x -> Check.redCells(x, 0));
        red.answers("no marks", 0, x -> x.of(0, 4));
        Story washed = red.then(x -> x.process(0, 1));
        washed.answers("washed", 1, x -> x.of(1, 4)).answers("the source", 0, x -> x.of(0, 4));
        washed.then(x -> x.process(1, 1)).answers("washed twice", 1, x -> x.of(2, 4));
        washed.then(x -> x.process(1, 2)).answers("washed and irradiated", 3, x -> x.of(2, 4));
        Story irradiated = red.then(x -> x.process(0, 2));
        irradiated.then(x -> x.process(1, 2)).answers("irradiated twice", 2, x -> x.of(2, 4));
        irradiated.then(x -> x.process(1, 1)).answers("irradiated and washed", 3, x -> x.of(2, 4));
        Story thawed = Story.begin().then(x -> Check.plasma(x, 0), x -> x.process(0, 3));
        thawed.answers("thawed", 4, x -> x.of(1, 4));
        thawed.then(x -> x.process(1, 3)).answers("thawed twice", 4, x -> x.of(2, 4));
    }

    /** "They have its group, rhesus, antigens and marks, if nothing else is said", "in state 0". */
    private static void productsAreAsTheSource() {
        for (int n = 0; n < 32; n++) {
            int how = n / 8;
            int group = n % 8 / 2;
            int rhesus = n % 2;
            int[] kinds = {Check.WHOLE, Check.RED, Check.PLATELETS, Check.PLASMA};
            Story story = Story.begin().then(x -> x.unit(3, kinds[how], group, rhesus, 100),
                x -> x.antigen(0, 0, 1), x -> x.antigen(0, 7, 0), x -> x.process(0, how));
            for (int u = 1; u <= (how == 0 ? 3 : 1); u++) {
                int product = u;
                story.answers("state", 0, x -> x.of(product, 0)).answers("group", group, x -> x.of(product, 2));
                story.answers("rhesus", rhesus, x -> x.of(product, 3)).answers("antigen 0", 1, x -> x.has(product, 0));
                story.answers("antigen 7", 0, x -> x.has(product, 7)).answers("antigen 1", 2, x -> x.has(product, 1));
                story.answers("marks", MARKS[how], x -> x.of(product, 4));
                story.then(x -> x.quarantine(3, true)).answers("donor", 1, x -> x.of(product, 7));
            }
            story.answers("the source is used up", 5, x -> x.of(0, 0));
            story.refuses("no product more", Check.NO_SUCH, x -> x.of(how == 0 ? 4 : 2, 0));
        }
    }

    private static Story platelets(int count) {
        return Story.begin().times(count, (x, u) -> x.unit(u % 16, Check.PLATELETS, Check.A, 1, 100 + u));
    }

    /** "IllegalArgumentException when they are the same". */
    private static void aUnitIsNotPooledWithItself() {
        platelets(2).refuses("the first with itself", Check.ARGUMENT, x -> x.pool(0, 0))
            .refuses("the last with itself", Check.ARGUMENT, x -> x.pool(1, 1))
            .answers("two", 2, x -> x.pool(0, 1)).answers("two", 2, x -> x.pool(1, 0));
    }

    /** "IllegalStateException when one is not ready": each state and the quarantine, on either side. */
    private static void onlyReadyUnitsArePooled() {
        Story story = Story.everyState(Check.PLATELETS).then(x -> x.unit(2, Check.PLATELETS, Check.AB, 0, 100));
        story.onlyInStates("the first", (x, u) -> x.pool(u, 7), 0);
        story.onlyInStates("the second", (x, u) -> x.pool(7, u), 0);
        for (int donor = 1; donor <= 2; donor++) {
            int barred = donor;
            story.then(x -> x.quarantine(barred, true)).refuses("barred", Check.STATE, x -> x.pool(0, 7))
                .refuses("barred", Check.STATE, x -> x.pool(7, 0));
        }
        story.then(x -> x.quarantine(3, true)).takes("another donor", x -> x.pool(0, 7));
    }

    private static void poolingInTheLastMinute() {
        Story story = platelets(2);
        story.then(x -> x.pass(99)).answers("the last minute of one", 2, x -> x.pool(0, 1));
        story.then(x -> x.pass(100)).refuses("one expired", Check.STATE, x -> x.pool(0, 1))
            .refuses("one expired", Check.STATE, x -> x.pool(1, 0));
        story.then(x -> x.pass(101)).refuses("both expired", Check.STATE, x -> x.pool(0, 1));
    }

    /** "Or there are 48". */
    private static void roomForAPool() {
        platelets(47).answers("the 48th", 47, x -> x.pool(45, 46));
        platelets(48).refuses("the 49th", Check.STATE, x -> x.pool(46, 47));
        platelets(47).then(x -> x.pool(0, 1)).refuses("the 49th", Check.STATE, x -> x.pool(2, 3));
    }

    /** "UnsupportedOperationException when one is no platelets, or group or rhesus are not the same." */
    private static void onlyPlateletsOfOneGroupAndRhesus() {
        for (int n = 0; n < 1024; n++) {
            int[] one = {n % 4, n / 4 % 4, n / 16 % 2};
            int[] other = {n / 32 % 4, n / 128 % 4, n / 512 % 2};
            boolean fit = one[0] == Check.PLATELETS && other[0] == Check.PLATELETS && one[1] == other[1]
                && one[2] == other[2];
            Story story = Story.begin().then(x -> x.unit(0, one[0], one[1], one[2], 100),
                x -> x.unit(0, other[0], other[1], other[2], 100));
            if (fit) {
                story.answers("pool", 2, x -> x.pool(0, 1));
            } else {
                story.refuses("pool " + n, Check.UNSUPPORTED, x -> x.pool(0, 1));
            }
        }
    }

    /** "The earlier expiry of both". */
    private static void theEarlierExpiryOfBoth() {
        int[][] lives = {{100, 101, 100}, {101, 100, 100}, {100, 100, 100}, {1, 60000, 1}, {60000, 60000, 60000}};
        for (int[] l : lives) {
            Story.begin().then(x -> x.pass(7), x -> x.unit(0, 2, 0, 0, l[0]), x -> x.unit(0, 2, 0, 0, l[1]),
                x -> x.pool(0, 1)).answers("lives " + l[0] + " and " + l[1], 7 + l[2], x -> x.of(2, 5));
        }
    }

    /** "Present when it is present in one of them, absent when it is in both, otherwise unknown." */
    private static void antigensOfAPool() {
        int[][] due = {{0, 1, 2}, {1, 1, 1}, {2, 1, 2}};
        for (int n = 0; n < 9; n++) {
            int one = n / 3;
            int other = n % 3;
            for (int a : new int[] {0, 7}) {
                platelets(2).then(x -> x.antigen(0, a, one), x -> x.antigen(1, a, other), x -> x.pool(0, 1))
                    .answers("antigens " + one + " and " + other, due[one][other], x -> x.has(2, a))
                    .answers("another antigen", 2, x -> x.has(2, 4));
            }
        }
    }

    /** "With the marks that both have". */
    private static void marksOfAPool() {
        Story story = platelets(4);
        story.then(x -> x.pool(0, 1)).answers("none", 0, x -> x.of(4, 4));
        Story one = story.then(x -> x.process(0, 2));
        one.then(x -> x.pool(4, 1)).answers("the first alone", 0, x -> x.of(5, 4));
        one.then(x -> x.pool(1, 4)).answers("the second alone", 0, x -> x.of(5, 4));
        one.then(x -> x.process(1, 2), x -> x.pool(4, 5)).answers("both", 2, x -> x.of(6, 4));
    }

    /** "A product from all from which the units come that it was made of": all sixteen donors. */
    private static void donorsOfAPool() {
        Story story = platelets(16).then(x -> x.pool(0, 1)).times(14, (x, n) -> x.pool(2 + n, 16 + n));
        story.answers("used up", 16 + 14, x -> x.count(Check.PLATELETS, 5));
        story.answers("not barred", 0, x -> x.of(30, 7));
        for (int d = 0; d < 16; d++) {
            int donor = d;
            story.then(x -> x.quarantine(donor, true)).answers("barred by " + donor, 1, x -> x.of(30, 7));
        }
        Story two = story.then(x -> x.quarantine(0, true), x -> x.quarantine(15, true));
        two.then(x -> x.quarantine(0, false)).answers("barred by the other still", 1, x -> x.of(30, 7));
        two.then(x -> x.quarantine(0, false), x -> x.quarantine(15, false)).answers("no more", 0, x -> x.of(30, 7));
    }
}
