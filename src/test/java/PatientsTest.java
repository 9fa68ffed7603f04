/** Promises 7 to 11 and 23: patient, sample, unlock, antibody, need, who. */
public final class PatientsTest {
    public static void main(String[] args) {
        patient();
        confirming();
        locking();
        lockingAConfirmedOne();
        unlocking();
        unlockKeepsTheSamplesMinute();
        sampleRefusals();
        antibody();
        need();
        whoRefusals();
        Check.finish();
    }

    private static void checkWho(TypedBlood x, int p, int status, int group, int rhesus) {
        Check.same("status", x.who(p, 0), status);
        Check.same("group", x.who(p, 1), group);
        Check.same("rhesus", x.who(p, 2), rhesus);
    }

    private static void patient() {
        TypedBlood x = new TypedBlood();
        for (int p = 0; p < 10; p++) {
            int due = p;
            Check.fails("not yet", Check.NO_SUCH, () -> x.who(due, 0));
            Check.same("patient", x.patient(), p);
            checkWho(x, p, 0, Check.NONE, Check.NONE);
            Check.same("antibodies", x.who(p, 3), 0);
            Check.same("needs", x.who(p, 4), 0);
        }
        Check.fails("the 11th", Check.STATE, () -> x.patient());
        Check.fails("the 11th", Check.NO_SUCH, () -> x.who(10, 0));
    }

    private static void confirming() {
        TypedBlood x = new TypedBlood();
        int p = x.patient();
        int other = x.patient();
        Check.same("the first sample", x.sample(p, Check.AB, 1), 0);
        checkWho(x, p, 0, Check.NONE, Check.NONE);
        x.pass(50000);
        Check.same("the second, however late", x.sample(p, Check.AB, 1), 1);
        checkWho(x, p, 1, Check.AB, 1);
        Check.same("a third", x.sample(p, Check.AB, 1), 1);
        checkWho(x, p, 1, Check.AB, 1);
        checkWho(x, other, 0, Check.NONE, Check.NONE);
        Check.same("another's first", x.sample(other, Check.O, 0), 0);
        Check.same("another's second", x.sample(other, Check.O, 0), 1);
        checkWho(x, other, 1, Check.O, 0);
    }

    private static void locking() {
        TypedBlood x = new TypedBlood();
        int p = x.patient();
        x.sample(p, Check.A, 0);
        Check.same("another rhesus", x.sample(p, Check.A, 1), 2);
        checkWho(x, p, 2, Check.NONE, Check.NONE);
        Check.fails("a locked one", Check.STATE, () -> x.sample(p, Check.A, 1));
        int q = x.patient();
        x.sample(q, Check.O, 0);
        Check.same("another group", x.sample(q, Check.A, 0), 2);
        checkWho(x, q, 2, Check.NONE, Check.NONE);
        Check.fails("a locked one", Check.STATE, () -> x.sample(q, Check.O, 0));
    }

    private static void lockingAConfirmedOne() {
        TypedBlood x = new TypedBlood();
        int p = Check.confirmed(x, Check.B, 1);
        Check.same("another", x.sample(p, Check.B, 0), 2);
        checkWho(x, p, 2, Check.NONE, Check.NONE);
    }

    private static void unlocking() {
        TypedBlood x = new TypedBlood();
        int p = Check.locked(x);
        x.unlock(p, Check.AB, 1);
        checkWho(x, p, 1, Check.AB, 1);
        Check.fails("not locked now", Check.STATE, () -> x.unlock(p, Check.AB, 1));
        Check.same("just like what unlocked", x.sample(p, Check.AB, 1), 1);
        Check.same("what the sample before the unlocking told", x.sample(p, Check.B, 0), 2);
        x.unlock(p, Check.O, 0);
        checkWho(x, p, 1, Check.O, 0);
        Check.same("another than what unlocked", x.sample(p, Check.B, 0), 2);
        Check.fails("unlock", Check.NO_SUCH, () -> x.unlock(1, 9, 9));
        Check.fails("unlock", Check.NO_SUCH, () -> x.unlock(-1, 0, 0));
        Check.fails("unlock", Check.ARGUMENT, () -> x.unlock(p, 4, 0));
        Check.fails("unlock", Check.ARGUMENT, () -> x.unlock(p, -1, 0));
        Check.fails("unlock", Check.ARGUMENT, () -> x.unlock(p, 0, 2));
        Check.fails("unlock", Check.ARGUMENT, () -> x.unlock(p, 0, -1));
        checkWho(x, p, 2, Check.NONE, Check.NONE);
        int q = x.patient();
        Check.fails("one who is not locked", Check.ARGUMENT, () -> x.unlock(q, 4, 0));
        Check.fails("one who is not locked", Check.STATE, () -> x.unlock(q, 0, 0));
    }

    private static void unlockKeepsTheSamplesMinute() {
        TypedBlood x = new TypedBlood();
        int p = x.patient();
        int u = Check.plasma(x, 0);
        x.sample(p, Check.A, 0);
        x.pass(4000);
        x.sample(p, Check.B, 0);
        x.pass(4319);
        x.unlock(p, Check.B, 0);
        Check.same("the locking sample is fresh", x.issue(p, u), 1);
        x.giveBack(u);
        x.pass(1);
        Check.fails("and is fresh no more", Check.STATE, () -> x.issue(p, u));
    }

    private static void sampleRefusals() {
        TypedBlood x = new TypedBlood();
        int p = Check.locked(x);
        Check.fails("sample", Check.NO_SUCH, () -> x.sample(1, 4, 0));
        Check.fails("sample", Check.NO_SUCH, () -> x.sample(-1, 0, 0));
        Check.fails("sample", Check.ARGUMENT, () -> x.sample(p, 4, 0));
        Check.fails("sample", Check.ARGUMENT, () -> x.sample(p, -1, 0));
        Check.fails("sample", Check.ARGUMENT, () -> x.sample(p, 0, 2));
        Check.fails("sample", Check.ARGUMENT, () -> x.sample(p, 0, -1));
        int q = x.patient();
        x.sample(q, Check.A, 1);
        Check.fails("a wrong sample between", Check.ARGUMENT, () -> x.sample(q, 4, 1));
        Check.same("does not count", x.sample(q, Check.A, 1), 1);
    }

    private static void antibody() {
        TypedBlood x = new TypedBlood();
        int other = x.patient();
        int p = x.patient();
        Check.same("antibody", x.antibody(p, 7), 1);
        Check.same("the same one", x.antibody(p, 7), 1);
        Check.same("antibodies", x.who(p, 3), 128);
        for (int a = 0; a < 7; a++) {
            Check.same("antibody", x.antibody(p, a), a + 2);
        }
        Check.same("antibodies", x.who(p, 3), 255);
        Check.same("another's", x.who(other, 3), 0);
        Check.fails("antibody", Check.NO_SUCH, () -> x.antibody(2, 8));
        Check.fails("antibody", Check.NO_SUCH, () -> x.antibody(-1, 0));
        Check.fails("antibody", Check.ARGUMENT, () -> x.antibody(other, 8));
        Check.fails("antibody", Check.ARGUMENT, () -> x.antibody(other, -1));
        Check.fails("antibody", Check.ARGUMENT, () -> x.antibody(other, 32));
        Check.same("another's", x.who(other, 3), 0);
    }

    private static void need() {
        TypedBlood x = new TypedBlood();
        int other = x.patient();
        int p = x.patient();
        Check.same("need", x.need(p, 7), 0);
        Check.same("need", x.need(p, 2), 7);
        Check.same("needs", x.who(p, 4), 2);
        Check.same("another's", x.who(other, 4), 0);
        Check.fails("need", Check.NO_SUCH, () -> x.need(2, 8));
        Check.fails("need", Check.NO_SUCH, () -> x.need(-1, 0));
        Check.fails("need", Check.ARGUMENT, () -> x.need(p, 8));
        Check.fails("need", Check.ARGUMENT, () -> x.need(p, -1));
        Check.same("need", x.need(p, 0), 2);
        Check.same("needs", x.who(p, 4), 0);
    }

    private static void whoRefusals() {
        TypedBlood x = new TypedBlood();
        int p = x.patient();
        Check.fails("who", Check.NO_SUCH, () -> x.who(1, 5));
        Check.fails("who", Check.NO_SUCH, () -> x.who(-1, 0));
        Check.fails("who", Check.INDEX, () -> x.who(p, 5));
        Check.fails("who", Check.INDEX, () -> x.who(p, -1));
    }
}
