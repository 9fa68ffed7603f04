import java.util.ArrayList;
import java.util.List;

/**
 * All that calls can tell of an object, line by line: what can be asked, and what its next calls answer, at once and
 * when spans are nearly over; and the same once more when all that is issued has come back and nobody is locked, as
 * minutes that are kept show only then. The object is made anew for each line, so that none has more than 512 calls.
 */
final class Trace {
    interface Maker {
        TypedBlood make();
    }

    private interface Line {
        void write(TypedBlood x);
    }

    /** The last minutes in which a unit comes back, and in which a reservation, a crossmatch and a sample last. */
    private static final int[] LATER = {0, 29, 4319};

    private final List<String> lines = new ArrayList<>();
    private final Maker maker;
    private final int units;
    private final int patients;
    private boolean undone;
    private int later;
    private StringBuilder text;

    private Trace(Maker maker) {
        this.maker = maker;
        TypedBlood x = maker.make();
        units = count(48, u -> x.of(u, 0));
        patients = count(10, p -> x.who(p, 0));
    }

    static List<String> of(Maker maker) {
        Trace trace = new Trace(maker);
        for (boolean undone : new boolean[] {false, true}) {
            trace.undone = undone;
            for (int minutes : LATER) {
                trace.later = minutes;
                trace.writeUnits();
                trace.writePatients();
                trace.writeStore();
            }
        }
        return trace.lines;
    }

    private interface Numbered {
        void ask(int n);
    }

    private static int count(int most, Numbered numbered) {
        int found = 0;
        for (int n = 0; n < most; n++) {
            int number = n;
            found += Check.outcome(() -> numbered.ask(number)).equals("done") ? 1 : 0;
        }
        return found;
    }

    private void line(String what, Line line) {
        text = new StringBuilder(what).append(undone ? ", all undone, " : ", ").append(later).append(" minutes later:");
        TypedBlood x = maker.make();
        if (undone) {
            giveAllBack(x);
            for (int n = 0; n < patients; n++) {
                int p = n;
                attempt(y -> unlock(y, p), x);
            }
        }
        x.pass(later);
        line.write(x);
        lines.add(text.toString());
    }

    private void tell(int answer) {
        text.append(' ').append(answer);
    }

    /** What a call answers or throws. */
    private void attempt(Story.Question call, TypedBlood x) {
        try {
            tell(call.of(x));
        } catch (RuntimeException e) {
            text.append(' ').append(e.getClass().getSimpleName());
        }
    }

    private void writeUnits() {
        for (int n = 0; n < units; n++) {
            int u = n;
            line("of and has of unit " + u, x -> {
                for (int what = 0; what < 10; what++) {
                    tell(x.of(u, what));
                }
                for (int a = 0; a < 8; a++) {
                    tell(x.has(u, a));
                }
            });
        }
        line("giveBack of all units", x -> giveAllBack(x));
    }

    private void giveAllBack(TypedBlood x) {
        for (int n = 0; n < units; n++) {
            int u = n;
            attempt(y -> y.giveBack(u), x);
        }
    }

    private static int unlock(TypedBlood x, int p) {
        x.unlock(p, Check.O, 0);
        return p;
    }

    private void writePatients() {
        for (int n = 0; n < patients; n++) {
            int p = n;
            line("who and received of patient " + p, x -> {
                for (int what = 0; what < 5; what++) {
                    tell(x.who(p, what));
                }
                for (int i = 0; i <= units; i++) {
                    tell(x.received(p, i));
                }
            });
            line("reserve for patient " + p, x -> {
                for (int u = 0; u < units; u++) {
                    int reserved = u;
                    attempt(y -> y.reserve(p, reserved), x);
                }
            });
            line("issue to patient " + p, x -> {
                for (int u = 0; u < units; u++) {
                    int issued = u;
                    attempt(y -> y.issue(p, issued), x);
                }
            });
            line("a new unit for patient " + p, x -> {
                attempt(y -> y.need(p, 0), x);
                attempt(y -> y.issue(p, Check.plasma(y, 0)), x);
            });
            writeSamples(p);
        }
    }

    /** What the latest sample told shows in what the next one does. */
    private void writeSamples(int p) {
        for (int type = 0; type < 8; type++) {
            int group = type / 2;
            int rhesus = type % 2;
            line("sample of patient " + p + ": " + group + ", " + rhesus,
                x -> attempt(y -> y.sample(p, group, rhesus), x));
        }
    }

    private void writeStore() {
        line("the minute", x -> tell(x.pass(0)));
        line("the next unit and patient", x -> {
            attempt(y -> y.unit(0, 0, 0, 0, 1), x);
            attempt(y -> y.patient(), x);
        });
        line("count", x -> {
            for (int kind = 0; kind < 4; kind++) {
                for (int state = 0; state < 6; state++) {
                    tell(x.count(kind, state));
                }
            }
        });
        line("lookback", x -> {
            for (int donor = 0; donor < 16; donor++) {
                for (int i = 0; i <= patients; i++) {
                    tell(x.lookback(donor, i));
                }
            }
        });
        line("quarantine", x -> {
            for (int donor = 0; donor < 16; donor++) {
                int of = donor;
                attempt(y -> y.unit(of, 0, 0, 0, 1), x);
            }
            for (int donor = 0; donor < 16; donor++) {
                tell(x.quarantine(donor, false));
            }
        });
    }
}
