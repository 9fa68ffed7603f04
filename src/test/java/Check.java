import java.util.NoSuchElementException;

/** What the tests share: comparing answers and exceptions, and patients and units that are often needed. */
final class Check {
    static final int RED = 0;
    static final int PLASMA = 1;
    static final int PLATELETS = 2;
    static final int WHOLE = 3;
    static final int O = 0;
    static final int A = 1;
    static final int B = 2;
    static final int AB = 3;
    static final int NONE = TypedBlood.NONE;

    static final Class<?> NO_SUCH = NoSuchElementException.class;
    static final Class<?> ARGUMENT = IllegalArgumentException.class;
    static final Class<?> STATE = IllegalStateException.class;
    static final Class<?> UNSUPPORTED = UnsupportedOperationException.class;
    static final Class<?> INDEX = IndexOutOfBoundsException.class;

    interface Call {
        void run();
    }

    private static int checks = 0;
    private static int wrong = 0;

    private Check() {
    }

    static void same(String what, long got, long want) {
        checks++;
        if (got != want) {
            report(what, String.valueOf(got), String.valueOf(want));
        }
    }

    static void same(String what, String got, String want) {
        checks++;
        if (!got.equals(want)) {
            report(what, got, want);
        }
    }

    /** The call must throw an exception of just this class. */
    static void fails(String what, Class<?> want, Call call) {
        checks++;
        String got = "nothing";
        try {
            call.run();
        } catch (RuntimeException e) {
            got = e.getClass().getName();
        }
        if (!got.equals(want.getName())) {
            report(what, "throws " + got, "throws " + want.getName());
        }
    }

    /** A text for what a call does: its exception's name, or "done". */
    static String outcome(Call call) {
        try {
            call.run();
            return "done";
        } catch (RuntimeException e) {
            return e.getClass().getName();
        }
    }

    private static void report(String what, String got, String want) {
        wrong++;
        StackTraceElement place = null;
        for (StackTraceElement frame : new Throwable().getStackTrace()) {
            if (place == null && !frame.getClassName().equals("Check")) {
                place = frame;
            }
        }
        System.out.println(place + ": " + what + " answered " + got + ", due is " + want);
    }

    static void finish() {
        System.out.println(checks + " checks, " + wrong + " wrong");
        if (wrong != 0 || checks == 0) {
            System.exit(1);
        }
    }

    /** A new patient whose group and rhesus two samples confirm. */
    static int confirmed(TypedBlood x, int group, int rhesus) {
        int p = x.patient();
        x.sample(p, group, rhesus);
        x.sample(p, group, rhesus);
        return p;
    }

    /** A new patient who is locked, with a fresh sample. */
    static int locked(TypedBlood x) {
        int p = x.patient();
        x.sample(p, A, 0);
        x.sample(p, B, 0);
        return p;
    }

    /** A new unit of plasma AB, which the rules and the emergency allow to everybody without needs. */
    static int plasma(TypedBlood x, int donor) {
        return x.unit(donor, PLASMA, AB, 0, 60000);
    }

    /** A new unit of red cells O without rhesus, which only antibodies and needs forbid. */
    static int redCells(TypedBlood x, int donor) {
        return x.unit(donor, RED, O, 0, 60000);
    }

    /** Units 0 .. 5, stored plasma that may be issued to the patient, come into the states of their numbers. */
    static void bringIntoEachState(TypedBlood x, int p) {
        x.reserve(p, 1);
        x.issue(p, 2);
        x.issue(p, 3);
        x.transfused(3);
        x.discard(4, 1);
        x.process(5, 3);
    }
}
