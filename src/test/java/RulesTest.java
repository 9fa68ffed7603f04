/** Promise 24: why, and with it the rules for a patient and a unit. */
public final class RulesTest {
    /** By the patient's group O, A, B, AB: the groups of the units that may be given, in the same order. */
    private static final String[] RED_CELLS_TO = {"y...", "yy..", "y.y.", "yyyy"};
    private static final String[] OTHERS_TO = {"yyyy", ".y.y", "..yy", "...y"};

    public static void main(String[] args) {
        confirmedPatients();
        unconfirmedPatients();
        antibodies();
        antibodiesConcernRedCellsAlone();
        needs();
        theFirstReasonCounts();
        inWhateverState();
        refusals();
        Check.finish();
    }

    private static void confirmedPatients() {
        for (int group = 0; group < 4; group++) {
            for (int rhesus = 0; rhesus < 2; rhesus++) {
                TypedBlood x = new TypedBlood();
                int p = Check.confirmed(x, group, rhesus);
                checkAllUnits(x, p, group, group, rhesus == 1);
            }
        }
    }

    private static void unconfirmedPatients() {
        TypedBlood x = new TypedBlood();
        checkAllUnits(x, x.patient(), Check.O, Check.AB, false);
        TypedBlood y = new TypedBlood();
        int once = y.patient();
        y.sample(once, Check.A, 1);
        checkAllUnits(y, once, Check.O, Check.AB, false);
        TypedBlood z = new TypedBlood();
        int locked = Check.confirmed(z, Check.A, 0);
        z.sample(locked, Check.A, 1);
        checkAllUnits(z, locked, Check.O, Check.AB, false);
    }

    private static void checkAllUnits(TypedBlood x, int p, int asRedCells, int asOthers, boolean withRhesus) {
        for (int kind = 0; kind < 4; kind++) {
            for (int group = 0; group < 4; group++) {
                for (int rhesus = 0; rhesus < 2; rhesus++) {
                    int due = 0;
                    if (kind == Check.WHOLE) {
                        due = 1;
                    } else if (kind == Check.RED) {
                        boolean fits = RED_CELLS_TO[asRedCells].charAt(group) == 'y';
                        due = !fits ? 2 : rhesus == 1 && !withRhesus ? 3 : 0;
                    } else {
                        due = OTHERS_TO[asOthers].charAt(group) == 'y' ? 0 : 2;
                    }
                    int u = x.unit(0, kind, group, rhesus, 100);
                    Check.same("why: kind " + kind + ", group " + group + ", rhesus " + rhesus, x.why(p, u), due);
                }
            }
        }
    }

    private static void antibodies() {
        TypedBlood x = new TypedBlood();
        int p = Check.confirmed(x, Check.O, 0);
        int u = Check.redCells(x, 0);
        x.antigen(u, 5, 1);
        Check.same("no antibodies", x.why(p, u), 0);
        x.antibody(p, 4);
        Check.same("unknown", x.why(p, u), 4);
        x.antigen(u, 4, 1);
        Check.same("present", x.why(p, u), 4);
        x.antigen(u, 4, 0);
        Check.same("absent", x.why(p, u), 0);
        x.antibody(p, 7);
        Check.same("absent and unknown", x.why(p, u), 4);
        x.antigen(u, 7, 0);
        Check.same("both absent", x.why(p, u), 0);
        x.antibody(p, 5);
        Check.same("absent and present", x.why(p, u), 4);
    }

    private static void antibodiesConcernRedCellsAlone() {
        TypedBlood x = new TypedBlood();
        int p = Check.confirmed(x, Check.O, 0);
        x.antibody(p, 0);
        for (int kind : new int[] {Check.PLASMA, Check.PLATELETS}) {
            int u = x.unit(0, kind, Check.AB, 1, 100);
            x.antigen(u, 0, 1);
            Check.same("kind " + kind, x.why(p, u), 0);
        }
    }

    private static void needs() {
        TypedBlood x = new TypedBlood();
        int p = Check.confirmed(x, Check.AB, 1);
        Check.redCells(x, 0);
        Check.plasma(x, 0);
        x.unit(0, Check.PLATELETS, Check.AB, 0, 100);
        Check.redCells(x, 0);
        int both = x.process(x.process(3, 1), 2);
        int thawed = x.process(1, 3);
        int irradiated = x.process(2, 2);
        int[] units = {0, 1, 2, both, thawed, irradiated};
        int[] marks = {0, 0, 0, 3, 4, 2};
        for (int needed = 0; needed < 8; needed++) {
            x.need(p, needed);
            for (int i = 0; i < units.length; i++) {
                boolean all = (needed | marks[i]) == marks[i];
                Check.same("needs " + needed + ", marks " + marks[i], x.why(p, units[i]), all ? 0 : 5);
            }
        }
    }

    private static void theFirstReasonCounts() {
        TypedBlood x = new TypedBlood();
        int p = x.patient();
        x.need(p, 1);
        x.antibody(p, 0);
        int whole = x.unit(0, Check.WHOLE, Check.AB, 1, 100);
        int group = x.unit(0, Check.RED, Check.A, 1, 100);
        int rhesus = x.unit(0, Check.RED, Check.O, 1, 100);
        int antibodies = x.unit(0, Check.RED, Check.O, 0, 100);
        int needs = x.unit(0, Check.RED, Check.O, 0, 100);
        x.antigen(needs, 0, 0);
        Check.same("why", x.why(p, whole), 1);
        Check.same("why", x.why(p, group), 2);
        Check.same("why", x.why(p, rhesus), 3);
        Check.same("why", x.why(p, antibodies), 4);
        Check.same("why", x.why(p, needs), 5);
        Check.same("why", x.why(p, x.process(needs, 1)), 0);
    }

    private static void inWhateverState() {
        TypedBlood x = new TypedBlood();
        int p = Check.confirmed(x, Check.O, 0);
        int u = x.unit(6, Check.PLASMA, Check.AB, 0, 100);
        int whole = x.unit(6, Check.WHOLE, Check.AB, 0, 100);
        x.process(whole, 0);
        Check.same("used up", x.why(p, whole), 1);
        x.quarantine(6, true);
        Check.same("barred", x.why(p, u), 0);
        x.quarantine(6, false);
        x.reserve(p, u);
        Check.same("reserved", x.why(p, u), 0);
        x.issue(p, u);
        Check.same("issued", x.why(p, u), 0);
        x.discard(u, 1);
        x.pass(100);
        Check.same("discarded and expired", x.why(p, u), 0);
    }

    private static void refusals() {
        TypedBlood x = new TypedBlood();
        Check.fails("nobody", Check.NO_SUCH, () -> x.why(0, 0));
        x.patient();
        Check.fails("no unit", Check.NO_SUCH, () -> x.why(0, 0));
        Check.plasma(x, 0);
        Check.same("why", x.why(0, 0), 0);
        Check.fails("no such patient", Check.NO_SUCH, () -> x.why(1, 0));
        Check.fails("no such patient", Check.NO_SUCH, () -> x.why(-1, 0));
        Check.fails("no such unit", Check.NO_SUCH, () -> x.why(0, 1));
        Check.fails("no such unit", Check.NO_SUCH, () -> x.why(0, -1));
    }
}
