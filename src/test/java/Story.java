import java.util.ArrayList;
import java.util.List;

/**
 * A run of calls that is told anew, on a new object, for each question: so no question changes the answer to another,
 * and what a refused call leaves behind can be compared with the same run without it.
 */
final class Story {
    interface Step {
        void on(TypedBlood x);
    }

    interface Question {
        int of(TypedBlood x);
    }

    interface NumberStep {
        void on(TypedBlood x, int n);
    }

    interface Listing {
        int at(TypedBlood x, int i);
    }

    private final List<Step> steps;
    private List<String> trace;

    private Story(List<Step> steps) {
        this.steps = steps;
    }

    static Story begin() {
        return new Story(List.of());
    }

    /** This story with more steps; this one stays as it is. */
    Story then(Step... more) {
        List<Step> longer = new ArrayList<>(steps);
        longer.addAll(List.of(more));
        return new Story(longer);
    }

    /** This story with one step for each of the numbers from 0 on. */
    Story times(int count, NumberStep step) {
        List<Step> longer = new ArrayList<>(steps);
        for (int n = 0; n < count; n++) {
            int number = n;
            longer.add(x -> step.on(x, number));
        }
        return new Story(longer);
    }

    TypedBlood tell() {
        TypedBlood x = new TypedBlood();
        for (Step step : steps) {
            step.on(x);
        }
        return x;
    }

    Story answers(String what, int due, Question question) {
        Check.same(what, question.of(tell()), due);
        return this;
    }

    Story takes(String what, Step call) {
        TypedBlood x = tell();
        Check.same(what, Check.outcome(() -> call.on(x)), "done");
        return this;
    }

    /** The call throws an exception of just this class, and leaves all as it was before. */
    Story refuses(String what, Class<?> due, Step call) {
        TypedBlood x = tell();
        Check.fails(what, due, () -> call.on(x));
        if (trace == null) {
            trace = Trace.of(this::tell);
        }
        List<String> after = Trace.of(() -> {
            TypedBlood y = tell();
            Check.outcome(() -> call.on(y));
            return y;
        });
        for (int line = 0; line < trace.size(); line++) {
            if (line >= after.size() || !after.get(line).equals(trace.get(line))) {
                Check.same(what + ", refused", line < after.size() ? after.get(line) : "nothing", trace.get(line));
                return this;
            }
        }
        Check.same(what + ", refused: what is left", after.size(), trace.size());
        return this;
    }

    /** A call that takes low .. high refuses what stands just outside, and the least and the greatest int. */
    Story bounds(String what, Class<?> due, int low, int high, NumberStep call) {
        takes(what + " " + low, x -> call.on(x, low));
        takes(what + " " + high, x -> call.on(x, high));
        for (int n : new int[] {low - 1, high + 1, Integer.MIN_VALUE, Integer.MAX_VALUE}) {
            refuses(what + " " + n, due, x -> call.on(x, n));
        }
        return this;
    }

    /** Of units 0 .. 5, each in the state of its number, the call takes those that are named and refuses the others. */
    Story onlyInStates(String what, NumberStep call, int... taken) {
        for (int state = 0; state < 6; state++) {
            int u = state;
            if (isAmong(state, taken)) {
                takes(what + " in state " + state, x -> call.on(x, u));
            } else {
                refuses(what + " in state " + state, Check.STATE, x -> call.on(x, u));
            }
        }
        return this;
    }

    private static boolean isAmong(int n, int[] numbers) {
        for (int number : numbers) {
            if (number == n) {
                return true;
            }
        }
        return false;
    }

    /** The listing call tells these and no more, and NONE before the first and behind the last. */
    Story lists(String what, Listing listing, int... due) {
        int[] outside = {-1, due.length, Integer.MIN_VALUE, Integer.MAX_VALUE};
        TypedBlood asked = tell();
        for (int i = 0; i < due.length; i++) {
            int place = i;
            answers(what + " " + i, due[i], x -> listing.at(x, place));
            Check.same(what + " " + i + ", asked after others", listing.at(asked, i), due[i]);
        }
        for (int i : outside) {
            answers(what + " " + i, Check.NONE, x -> listing.at(x, i));
            Check.same(what + " " + i + ", asked after others", listing.at(asked, i), Check.NONE);
        }
        return this;
    }

    /**
     * Units 0 .. 5 of a kind, each in the state of its number, and unit 6, made of unit 5; all of donor 1, for 20000
     * minutes. Patient 0 is confirmed, patient 1 not; all crossmatches are negative. 10 minutes have passed since.
     */
    static Story everyState(int kind) {
        int[] ways = {1, 3, 2};
        int group = kind == Check.RED ? Check.O : Check.AB;
        Story story = begin().then(x -> Check.confirmed(x, Check.O, 0), x -> x.patient())
            .times(6, (x, u) -> x.unit(1, kind, group, 0, 20000))
            .then(x -> x.process(5, ways[kind]));
        if (kind == Check.RED) {
            story = story.times(5, (x, u) -> x.crossmatch(0, u, true)).times(5, (x, u) -> x.crossmatch(1, u, true))
                .then(x -> x.crossmatch(0, 6, true), x -> x.crossmatch(1, 6, true));
        }
        return story.then(x -> x.reserve(0, 1), x -> x.issue(0, 2), x -> x.issue(0, 3), x -> x.transfused(3),
            x -> x.discard(4, 1), x -> x.pass(10));
    }
}
