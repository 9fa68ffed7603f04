import java.util.NoSuchElementException;

/** A store of typed blood; ../shared/DOC.md tells what each call promises. */
public final class TypedBlood {
    public static final int NONE = -1;

    private static final int MOST_UNITS = 48;
    private static final int MOST_PATIENTS = 10;
    private static final int DONORS = 16;
    private static final int KINDS = 4;
    private static final int GROUPS = 4;
    private static final int RHESUS_VALUES = 2;
    private static final int ANTIGENS = 8;
    private static final int ALL_MARKS = 7;
    private static final int STATES = 6;
    private static final int WAYS = 4;

    private static final int LONGEST_PASS = 50000;
    private static final int LONGEST_LIFE = 60000;
    private static final int LONGEST_OUTLOOK = 60000;
    private static final int LAST_DOCTOR = 999;
    private static final int LAST_DISCARD_REASON = 5;

    /** How long a reservation, a crossmatch and a sample last. */
    private static final int SPAN = 4320;
    private static final int RETURN_SPAN = 30;

    private static final int RED_CELLS = 0;
    private static final int PLASMA = 1;
    private static final int PLATELETS = 2;
    private static final int WHOLE_BLOOD = 3;

    private static final int GROUP_O = 0;
    private static final int GROUP_AB = 3;
    private static final int WITH_RHESUS = 1;

    private static final int ABSENT = 0;
    private static final int PRESENT = 1;
    private static final int UNKNOWN = 2;

    private static final int STORED = 0;
    private static final int RESERVED = 1;
    private static final int ISSUED = 2;
    private static final int TRANSFUSED = 3;
    private static final int DISCARDED = 4;
    private static final int USED_UP = 5;

    private static final int NOT_CONFIRMED = 0;
    private static final int CONFIRMED = 1;
    private static final int LOCKED = 2;

    private static final int SPLITTING = 0;
    private static final int WASHING = 1;
    private static final int IRRADIATING = 2;
    private static final int SPLIT_PRODUCTS = 3;
    /** By how; splitting adds no mark, and limits its platelets alone. */
    private static final int[] ADDED_MARK = {0, 1, 2, 4};
    private static final int[] PRODUCT_LIMIT = {7200, 1440, 20160, 1440};

    private final Unit[] units = new Unit[MOST_UNITS];
    private final Patient[] patients = new Patient[MOST_PATIENTS];
    private final Ranking ranking = new Ranking(MOST_UNITS);
    private int unitCount;
    private int patientCount;
    private int now;
    private int quarantined;
    private int issuesSoFar;

    public TypedBlood() {
    }

    public int pass(int minutes) throws IllegalArgumentException {
        if (minutes < 0 || minutes > LONGEST_PASS) {
            throw new IllegalArgumentException("minutes must be 0 .. 50000");
        }
        now += minutes;
        for (int u = 0; u < unitCount; u++) {
            units[u].endReservationWhenOver(now);
        }
        return now;
    }

    public int unit(int donor, int kind, int group, int rhesus, int life)
            throws IllegalArgumentException, IllegalStateException {
        if (!isBelow(donor, DONORS) || !isBelow(kind, KINDS) || !isBloodType(group, rhesus)) {
            throw new IllegalArgumentException("no such donor, kind, group or rhesus");
        }
        if (life < 1 || life > LONGEST_LIFE) {
            throw new IllegalArgumentException("life must be 1 .. 60000");
        }
        if (!hasRoomFor(1)) {
            throw new IllegalStateException("there are 48 units");
        }
        return keep(new Unit(kind, group, rhesus, 1 << donor, now + life));
    }

    public void antigen(int u, int a, int v)
            throws NoSuchElementException, IllegalArgumentException, IllegalStateException {
        Unit typed = unitAt(u);
        if (!isBelow(a, ANTIGENS) || v < ABSENT || v > UNKNOWN) {
            throw new IllegalArgumentException("no such antigen or value");
        }
        if (typed.state != STORED) {
            throw new IllegalStateException("the unit is not stored");
        }
        typed.setAntigen(a, v);
    }

    public int process(int u, int how)
            throws NoSuchElementException, IllegalArgumentException, IllegalStateException,
            UnsupportedOperationException {
        Unit source = unitAt(u);
        if (!isBelow(how, WAYS)) {
            throw new IllegalArgumentException("no such how");
        }
        if (!isReady(source) || !hasRoomFor(how == SPLITTING ? SPLIT_PRODUCTS : 1)) {
            throw new IllegalStateException("the unit is not ready, or there would be more than 48");
        }
        if (!suits(how, source.kind)) {
            throw new UnsupportedOperationException("not for a unit of this kind");
        }
        source.state = USED_UP;
        if (how == SPLITTING) {
            return keepSplitProducts(source);
        }
        return keepProduct(source, source.kind, ADDED_MARK[how], now + PRODUCT_LIMIT[how]);
    }

    public int pool(int u, int v)
            throws NoSuchElementException, IllegalArgumentException, IllegalStateException,
            UnsupportedOperationException {
        Unit one = unitAt(u);
        Unit other = unitAt(v);
        if (u == v) {
            throw new IllegalArgumentException("a unit is not pooled with itself");
        }
        if (!isReady(one) || !isReady(other) || !hasRoomFor(1)) {
            throw new IllegalStateException("a unit is not ready, or there are 48");
        }
        if (one.kind != PLATELETS || other.kind != PLATELETS
                || one.group != other.group || one.rhesus != other.rhesus) {
            throw new UnsupportedOperationException("not platelets of one group and rhesus");
        }
        one.state = USED_UP;
        other.state = USED_UP;
        return keepPooled(one, other);
    }

    public int patient() throws IllegalStateException {
        if (patientCount >= MOST_PATIENTS) {
            throw new IllegalStateException("there are 10 patients");
        }
        patients[patientCount] = new Patient();
        patientCount++;
        return patientCount - 1;
    }

    public int sample(int p, int group, int rhesus)
            throws NoSuchElementException, IllegalArgumentException, IllegalStateException {
        Patient sampled = patientAt(p);
        if (!isBloodType(group, rhesus)) {
            throw new IllegalArgumentException("no such group or rhesus");
        }
        if (sampled.status == LOCKED) {
            throw new IllegalStateException("the patient is locked");
        }
        sampled.takeSample(group, rhesus, now);
        return sampled.status;
    }

    public void unlock(int p, int group, int rhesus)
            throws NoSuchElementException, IllegalArgumentException, IllegalStateException {
        Patient locked = patientAt(p);
        if (!isBloodType(group, rhesus)) {
            throw new IllegalArgumentException("no such group or rhesus");
        }
        if (locked.status != LOCKED) {
            throw new IllegalStateException("the patient is not locked");
        }
        locked.confirm(group, rhesus);
    }

    public int antibody(int p, int a) throws NoSuchElementException, IllegalArgumentException {
        Patient bearer = patientAt(p);
        if (!isBelow(a, ANTIGENS)) {
            throw new IllegalArgumentException("no such antigen");
        }
        bearer.antibodies |= 1 << a;
        return Integer.bitCount(bearer.antibodies);
    }

    public int need(int p, int marks) throws NoSuchElementException, IllegalArgumentException {
        Patient needy = patientAt(p);
        if (marks < 0 || marks > ALL_MARKS) {
            throw new IllegalArgumentException("marks must be 0 .. 7");
        }
        int before = needy.needs;
        needy.needs = marks;
        return before;
    }

    public void crossmatch(int p, int u, boolean negative)
            throws NoSuchElementException, IllegalStateException, UnsupportedOperationException {
        Patient tested = patientAt(p);
        Unit against = unitAt(u);
        if (!against.isInHouse()) {
            throw new IllegalStateException("the unit is neither stored nor reserved");
        }
        if (against.kind != RED_CELLS) {
            throw new UnsupportedOperationException("the unit is no red cells");
        }
        tested.noteCrossmatch(u, negative ? now : NONE);
    }

    public int reserve(int p, int u)
            throws NoSuchElementException, IllegalStateException, UnsupportedOperationException {
        Patient receiver = patientAt(p);
        Unit wanted = unitAt(u);
        if (!isReady(wanted) || receiver.status == LOCKED) {
            throw new IllegalStateException("the unit is not ready, or the patient is locked");
        }
        if (!isCleared(receiver, wanted, u)) {
            throw new UnsupportedOperationException("a rule or the crossmatch forbids it");
        }
        wanted.reserveFor(p, now + SPAN);
        return wanted.reservedUntil;
    }

    public int release(int u) throws NoSuchElementException, IllegalStateException {
        Unit reserved = unitAt(u);
        if (reserved.state != RESERVED) {
            throw new IllegalStateException("the unit is not reserved");
        }
        int holder = reserved.holder;
        reserved.store();
        return holder;
    }

    public int issue(int p, int u)
            throws NoSuchElementException, IllegalStateException, UnsupportedOperationException {
        Patient receiver = patientAt(p);
        Unit given = unitAt(u);
        if (!mayLeaveFor(p, given) || receiver.status == LOCKED || !receiver.hasFreshSample(now)) {
            throw new IllegalStateException("the unit or the patient is not in a state for it");
        }
        if (!isCleared(receiver, given, u)) {
            throw new UnsupportedOperationException("a rule or the crossmatch forbids it");
        }
        return handOver(given, p, 0);
    }

    public int emergency(int p, int u, int doctor)
            throws NoSuchElementException, IllegalArgumentException, IllegalStateException,
            UnsupportedOperationException {
        Patient receiver = patientAt(p);
        Unit given = unitAt(u);
        if (doctor < 1 || doctor > LAST_DOCTOR) {
            throw new IllegalArgumentException("doctor must be 1 .. 999");
        }
        if (!mayLeaveFor(p, given) || receiver.status == LOCKED) {
            throw new IllegalStateException("the unit or the patient is not in a state for it");
        }
        if (!given.isForEmergencies() || Rules.reason(receiver, given) != 0) {
            throw new UnsupportedOperationException("a rule forbids it, or it is not for emergencies");
        }
        return handOver(given, p, doctor);
    }

    public int giveBack(int u) throws NoSuchElementException, IllegalStateException {
        Unit returned = unitAt(u);
        int away = now - returned.issuedAt;
        if (returned.state != ISSUED || away >= RETURN_SPAN) {
            throw new IllegalStateException("the unit is not issued, or was away for too long");
        }
        returned.store();
        return away;
    }

    public int transfused(int u) throws NoSuchElementException, IllegalStateException {
        Unit given = unitAt(u);
        if (given.state != ISSUED) {
            throw new IllegalStateException("the unit is not issued");
        }
        given.state = TRANSFUSED;
        return given.holder;
    }

    public int discard(int u, int reason)
            throws NoSuchElementException, IllegalArgumentException, IllegalStateException {
        Unit spoilt = unitAt(u);
        if (reason < 1 || reason > LAST_DISCARD_REASON) {
            throw new IllegalArgumentException("reason must be 1 .. 5");
        }
        if (!spoilt.isInHouse() && spoilt.state != ISSUED) {
            throw new IllegalStateException("the unit is not stored, reserved or issued");
        }
        int before = spoilt.state;
        spoilt.throwAway(reason);
        return before;
    }

    public int quarantine(int donor, boolean on) throws IllegalArgumentException {
        if (!isBelow(donor, DONORS)) {
            throw new IllegalArgumentException("no such donor");
        }
        int bit = 1 << donor;
        quarantined = on ? quarantined | bit : quarantined & ~bit;
        int barred = 0;
        for (int u = 0; u < unitCount; u++) {
            if (units[u].isInHouse() && units[u].isBarred(quarantined)) {
                barred++;
            }
        }
        return barred;
    }

    public int of(int u, int what) throws NoSuchElementException, IndexOutOfBoundsException {
        Unit asked = unitAt(u);
        switch (what) {
            case 0:
                return asked.state;
            case 1:
                return asked.kind;
            case 2:
                return asked.group;
            case 3:
                return asked.rhesus;
            case 4:
                return asked.marks;
            case 5:
                return asked.expiry;
            case 6:
                return asked.holder;
            case 7:
                return asked.isBarred(quarantined) ? 1 : 0;
            case 8:
                return asked.doctor;
            case 9:
                return asked.discardReason;
            default:
                throw new IndexOutOfBoundsException("no such what");
        }
    }

    public int has(int u, int a) throws NoSuchElementException, IndexOutOfBoundsException {
        Unit asked = unitAt(u);
        if (!isBelow(a, ANTIGENS)) {
            throw new IndexOutOfBoundsException("no such antigen");
        }
        return asked.antigenValue(a);
    }

    public int who(int p, int what) throws NoSuchElementException, IndexOutOfBoundsException {
        Patient asked = patientAt(p);
        switch (what) {
            case 0:
                return asked.status;
            case 1:
                return asked.status == CONFIRMED ? asked.group : NONE;
            case 2:
                return asked.status == CONFIRMED ? asked.rhesus : NONE;
            case 3:
                return asked.antibodies;
            case 4:
                return asked.needs;
            default:
                throw new IndexOutOfBoundsException("no such what");
        }
    }

    public int why(int p, int u) throws NoSuchElementException {
        Patient receiver = patientAt(p);
        Unit considered = unitAt(u);
        return Rules.reason(receiver, considered);
    }

    public int offer(int p, int kind, int i)
            throws NoSuchElementException, IllegalArgumentException {
        Patient receiver = patientAt(p);
        if (!isBelow(kind, KINDS)) {
            throw new IllegalArgumentException("no such kind");
        }
        ranking.empty();
        for (int u = 0; u < unitCount; u++) {
            Unit candidate = units[u];
            if (candidate.kind == kind && isReady(candidate)
                    && Rules.reason(receiver, candidate) == 0) {
                ranking.insert(u, candidate.expiry);
            }
        }
        return ranking.at(i);
    }

    public int stock(int kind, int group, int rhesus) throws IllegalArgumentException {
        boolean anyGroup = group == NONE;
        boolean anyRhesus = rhesus == NONE;
        if (!isBelow(kind, KINDS) || !(anyGroup || isBelow(group, GROUPS))
                || !(anyRhesus || isBelow(rhesus, RHESUS_VALUES))) {
            throw new IllegalArgumentException("no such kind, group or rhesus");
        }
        int ready = 0;
        for (int u = 0; u < unitCount; u++) {
            Unit held = units[u];
            if (held.kind == kind && (anyGroup || held.group == group)
                    && (anyRhesus || held.rhesus == rhesus) && isReady(held)) {
                ready++;
            }
        }
        return ready;
    }

    public int expiring(int minutes, int i) throws IllegalArgumentException {
        if (minutes < 0 || minutes > LONGEST_OUTLOOK) {
            throw new IllegalArgumentException("minutes must be 0 .. 60000");
        }
        ranking.empty();
        for (int u = 0; u < unitCount; u++) {
            Unit held = units[u];
            if (held.isInHouse() && !held.isExpired(now) && held.isExpired(now + minutes)) {
                ranking.insert(u, held.expiry);
            }
        }
        return ranking.at(i);
    }

    public int lookback(int donor, int i) throws IllegalArgumentException {
        if (!isBelow(donor, DONORS)) {
            throw new IllegalArgumentException("no such donor");
        }
        ranking.empty();
        for (int p = 0; p < patientCount; p++) {
            int first = firstIssue(p, 1 << donor);
            if (first != NONE) {
                ranking.insert(p, first);
            }
        }
        return ranking.at(i);
    }

    public int received(int p, int i) throws NoSuchElementException {
        patientAt(p);
        ranking.empty();
        for (int u = 0; u < unitCount; u++) {
            if (units[u].wentTo(p)) {
                ranking.insert(u, units[u].issueOrder);
            }
        }
        return ranking.at(i);
    }

    public int count(int kind, int state) throws IllegalArgumentException {
        if (!isBelow(kind, KINDS) || !isBelow(state, STATES)) {
            throw new IllegalArgumentException("no such kind or state");
        }
        int found = 0;
        for (int u = 0; u < unitCount; u++) {
            if (units[u].kind == kind && units[u].state == state) {
                found++;
            }
        }
        return found;
    }

    private static boolean isBelow(int value, int bound) {
        return value >= 0 && value < bound;
    }

    private static boolean isBloodType(int group, int rhesus) {
        return isBelow(group, GROUPS) && isBelow(rhesus, RHESUS_VALUES);
    }

    private Unit unitAt(int u) {
        if (!isBelow(u, unitCount)) {
            throw new NoSuchElementException("no such unit");
        }
        return units[u];
    }

    private Patient patientAt(int p) {
        if (!isBelow(p, patientCount)) {
            throw new NoSuchElementException("no such patient");
        }
        return patients[p];
    }

    private boolean hasRoomFor(int more) {
        return unitCount + more <= MOST_UNITS;
    }

    private boolean isReady(Unit asked) {
        return asked.state == STORED && isUsable(asked);
    }

    private boolean isUsable(Unit asked) {
        return !asked.isExpired(now) && !asked.isBarred(quarantined);
    }

    private boolean mayLeaveFor(int p, Unit given) {
        boolean reservedForThem = given.state == RESERVED && given.holder == p;
        return (given.state == STORED || reservedForThem) && isUsable(given);
    }

    private boolean isCleared(Patient receiver, Unit given, int u) {
        boolean matched = given.kind != RED_CELLS || receiver.hasValidCrossmatch(u, now);
        return matched && Rules.reason(receiver, given) == 0;
    }

    private int handOver(Unit given, int p, int doctor) {
        given.issueTo(p, now, issuesSoFar, doctor);
        issuesSoFar++;
        int outstanding = 0;
        for (int u = 0; u < unitCount; u++) {
            if (units[u].wentTo(p)) {
                outstanding++;
            }
        }
        return outstanding;
    }

    /** The place in the order of issues of the first that stands, of blood from the donor; or NONE. */
    private int firstIssue(int p, int donorBit) {
        int first = NONE;
        for (int u = 0; u < unitCount; u++) {
            Unit given = units[u];
            if (given.wentTo(p) && (given.donors & donorBit) != 0
                    && (first == NONE || given.issueOrder < first)) {
                first = given.issueOrder;
            }
        }
        return first;
    }

    private static boolean suits(int how, int kind) {
        switch (how) {
            case SPLITTING:
                return kind == WHOLE_BLOOD;
            case WASHING:
                return kind == RED_CELLS;
            case IRRADIATING:
                return kind == RED_CELLS || kind == PLATELETS;
            default:
                return kind == PLASMA;
        }
    }

    private int keepSplitProducts(Unit source) {
        int first = keepProduct(source, RED_CELLS, 0, source.expiry);
        keepProduct(source, PLASMA, 0, source.expiry);
        keepProduct(source, PLATELETS, 0, now + PRODUCT_LIMIT[SPLITTING]);
        return first;
    }

    private int keepProduct(Unit source, int kind, int addedMark, int latestExpiry) {
        int expiry = Math.min(source.expiry, latestExpiry);
        Unit product = new Unit(kind, source.group, source.rhesus, source.donors, expiry);
        product.marks = source.marks | addedMark;
        product.present = source.present;
        product.absent = source.absent;
        return keep(product);
    }

    private int keepPooled(Unit one, Unit other) {
        int expiry = Math.min(one.expiry, other.expiry);
        Unit pooled = new Unit(PLATELETS, one.group, one.rhesus, one.donors | other.donors, expiry);
        pooled.marks = one.marks & other.marks;
        pooled.present = one.present | other.present;
        pooled.absent = one.absent & other.absent;
        return keep(pooled);
    }

    private int keep(Unit added) {
        units[unitCount] = added;
        unitCount++;
        return unitCount - 1;
    }

    private static final class Unit {
        final int kind;
        final int group;
        final int rhesus;
        /** The donors from which it comes, as bits. */
        final int donors;
        final int expiry;
        /** Antigens as bits; one that is in neither is unknown. */
        int present;
        int absent;
        int marks;
        int state = STORED;
        /** For whom it is reserved, or to whom it was issued and not given back. */
        int holder = NONE;
        int reservedUntil;
        int issuedAt;
        /** Its place among all issues while that issue stands, else NONE. */
        int issueOrder = NONE;
        int doctor;
        int discardReason;

        Unit(int kind, int group, int rhesus, int donors, int expiry) {
            this.kind = kind;
            this.group = group;
            this.rhesus = rhesus;
            this.donors = donors;
            this.expiry = expiry;
        }

        boolean isExpired(int minute) {
            return minute >= expiry;
        }

        boolean isBarred(int quarantinedDonors) {
            return (donors & quarantinedDonors) != 0;
        }

        boolean isInHouse() {
            return state == STORED || state == RESERVED;
        }

        boolean isForEmergencies() {
            return (kind == RED_CELLS && group == GROUP_O) || (kind == PLASMA && group == GROUP_AB);
        }

        boolean wentTo(int p) {
            return issueOrder != NONE && holder == p;
        }

        int antigenValue(int a) {
            int bit = 1 << a;
            if ((present & bit) != 0) {
                return PRESENT;
            }
            return (absent & bit) != 0 ? ABSENT : UNKNOWN;
        }

        void setAntigen(int a, int value) {
            int bit = 1 << a;
            present = value == PRESENT ? present | bit : present & ~bit;
            absent = value == ABSENT ? absent | bit : absent & ~bit;
        }

        void reserveFor(int p, int until) {
            state = RESERVED;
            holder = p;
            reservedUntil = until;
        }

        void endReservationWhenOver(int minute) {
            if (state == RESERVED && minute >= reservedUntil) {
                store();
            }
        }

        void store() {
            state = STORED;
            holder = NONE;
            issueOrder = NONE;
            doctor = 0;
        }

        void issueTo(int p, int minute, int order, int byDoctor) {
            state = ISSUED;
            holder = p;
            issuedAt = minute;
            issueOrder = order;
            doctor = byDoctor;
        }

        void throwAway(int reason) {
            // A reservation ends with the unit; an issue is remembered, for lookback.
            if (state == RESERVED) {
                holder = NONE;
            }
            state = DISCARDED;
            discardReason = reason;
        }
    }

    private static final class Patient {
        int status = NOT_CONFIRMED;
        /** What the latest sample told; NONE before the first one. */
        int group = NONE;
        int rhesus = NONE;
        int sampledAt;
        int antibodies;
        int needs;
        /** By unit, the minute of the latest crossmatch if that was negative, else NONE. */
        final int[] negativeAt = new int[MOST_UNITS];

        Patient() {
            for (int u = 0; u < MOST_UNITS; u++) {
                negativeAt[u] = NONE;
            }
        }

        void takeSample(int newGroup, int newRhesus, int minute) {
            if (group != NONE) {
                status = group == newGroup && rhesus == newRhesus ? CONFIRMED : LOCKED;
            }
            group = newGroup;
            rhesus = newRhesus;
            sampledAt = minute;
        }

        void confirm(int newGroup, int newRhesus) {
            status = CONFIRMED;
            group = newGroup;
            rhesus = newRhesus;
        }

        boolean hasFreshSample(int minute) {
            return group != NONE && minute - sampledAt < SPAN;
        }

        void noteCrossmatch(int u, int minute) {
            negativeAt[u] = minute;
        }

        boolean hasValidCrossmatch(int u, int minute) {
            return negativeAt[u] != NONE && minute - negativeAt[u] < SPAN;
        }

        int groupOr(int unconfirmedGroup) {
            return status == CONFIRMED ? group : unconfirmedGroup;
        }

        boolean isConfirmedWithRhesus() {
            return status == CONFIRMED && rhesus == WITH_RHESUS;
        }
    }

    /** The written rules, for a patient and a unit. */
    private static final class Rules {
        static int reason(Patient receiver, Unit given) {
            if (given.kind == WHOLE_BLOOD) {
                return 1;
            }
            if (!groupFits(receiver, given)) {
                return 2;
            }
            if (given.kind == RED_CELLS) {
                if (given.rhesus == WITH_RHESUS && !receiver.isConfirmedWithRhesus()) {
                    return 3;
                }
                if ((receiver.antibodies & ~given.absent) != 0) {
                    return 4;
                }
            }
            return (receiver.needs & ~given.marks) != 0 ? 5 : 0;
        }

        static boolean groupFits(Patient receiver, Unit given) {
            if (given.kind == RED_CELLS) {
                return (given.group & ~receiver.groupOr(GROUP_O)) == 0;
            }
            return (receiver.groupOr(GROUP_AB) & ~given.group) == 0;
        }
    }

    /** Numbers in the order of their keys, those with equal keys in the order of insertion. */
    private static final class Ranking {
        final int[] numbers;
        final int[] keys;
        int size;

        Ranking(int most) {
            numbers = new int[most];
            keys = new int[most];
        }

        void empty() {
            size = 0;
        }

        void insert(int number, int key) {
            if (size >= numbers.length) {
                return;
            }
            int place = size;
            while (place > 0 && keys[place - 1] > key) {
                numbers[place] = numbers[place - 1];
                keys[place] = keys[place - 1];
                place--;
            }
            numbers[place] = number;
            keys[place] = key;
            size++;
        }

        int at(int i) {
            return i >= 0 && i < size ? numbers[i] : NONE;
        }
    }
}
