/**
 * A union of parishes: whose a person is, orders of removal, one house, acts as texts by weeks,
 * vagrants, bound children, costs and their shares, plans for a winter, and an image of it all.
 * The words in the comments are those of the document's "Terms".
 */
public final class ParishUnion {
    public static final int NONE = -1, BAD = -2, STATE = -3, FULL = -4;

    // Answers below zero that are no refusals.
    private static final int NOBODY = -5;
    private static final int OTHER_KIND = -6;
    private static final int FAULT_BASE = -10;

    private static final int LAST_WEEK = 300;
    private static final int FIRST_WEEK = -3000;
    private static final int NO_WAY = 99;
    private static final int WEEKS_OF_A_YEAR = 50;

    private static final int PARISHES = 6;
    private static final int AT_HOUSE = 6;
    private static final int AT_MASTER = 7;
    private static final int AT_GRAVE = 8;

    private static final int MOST_PERSONS = 16;
    private static final int MOST_RIGHTS = 40;
    private static final int MOST_ENTRIES = 80;
    private static final int MOST_ACTS = 10;
    private static final int MOST_CLAUSES = 8;
    private static final int MOST_OPEN = 6;
    private static final int MOST_ORDERS = 20;
    private static final int MOST_NIGHTS = 40;
    private static final int MOST_CHOICES = 6;
    private static final int MOST_TRIED = 10;
    private static final int TAPE_ROOM = 150;

    private static final int WARDS = 4;
    private static final int STORE_PLACE = 4;
    private static final int MASTERS = 4;
    private static final int NAMES = 8;
    private static final int ROWS = 3;
    private static final int ROW_ROOM = 10;
    private static final int MOST_STORE = 9999;
    private static final int MOST_PLANNED_BEDS = 99;

    private static final int MAN = 0;
    private static final int WOMAN = 1;

    // KINDS of RIGHTS, and for each the KIND that it is under.
    private static final int KINDS = 5;
    private static final int KIND_HIRED = 1;
    private static final int KIND_RATED = 2;
    private static final int KIND_WED = 3;
    private static final int KIND_YEARLY = 4;
    private static final int[] KIND_ABOVE = {NONE, 0, 0, 0, 1};

    // What is held of a RIGHT; the first three are the answers of right(.., 5).
    private static final int HELD_MAY = 0;
    private static final int HELD_SURE = 1;
    private static final int HELD_NOT_SO = 2;
    private static final int HELD_UNTOLD = 3;

    private static final long TAKE_NONE = 0L;
    private static final long TAKE_ALL = -1L;

    // Words of ACTS, numbered as in force(.., what).
    private static final int WORDS = 10;
    private static final int WORD_HIRED = 0;
    private static final int WORD_RATED = 1;
    private static final int WORD_DIET = 2;
    private static final int WORD_FEAR = 3;
    private static final int WORD_BIND = 4;
    private static final int WORD_WED = 5;
    private static final int WORD_KIN = 6;
    private static final int WORD_SHARE = 7;
    private static final int WORD_GIVE = 8;
    private static final int WORD_WARD = 9;
    private static final int[] WITHOUT_ACTS = {50, 100, 10, 5, 14, 1, 1, 0, 0, 0};

    private static final int SHARE_BY_RENTS = 0;
    private static final int SHARE_BY_HELPED = 1;

    // Sums of a WEEK, numbered as in gone(.., what); the last one runs on from WEEK to WEEK.
    private static final int SUMS = 7;
    private static final int SUM_EATEN = 0;
    private static final int SUM_GIVEN = 1;
    private static final int SUM_REFUSED = 2;
    private static final int SUM_DIED = 3;
    private static final int SUM_DEAD = 4;
    private static final int SUM_ASKED = 5;
    private static final int SUM_ILL_NEWS = 6;

    private final Union union = new Union();
    private final Bench bench = new Bench();
    private final Reader reader = new Reader();
    // What a try changes, as it was.
    private final Person[] personsBefore = new Person[MOST_PERSONS];
    private final House houseBefore = new House();
    private final long[] weights = new long[PARISHES];
    private final long[] rests = new long[PARISHES];
    private final int[] shares = new int[PARISHES];
    private final long[] burdens = new long[PARISHES];
    // null: no IMAGE was taken.
    private Union kept;

    public ParishUnion() {
        for (int i = 0; i < MOST_PERSONS; i++) {
            personsBefore[i] = new Person();
        }
    }

    // ---- parishes, persons

    public int parish(int parish, int rents) {
        if (!isParish(parish)) {
            return NONE;
        }
        if (!within(rents, 0, 9999)) {
            return BAD;
        }
        int before = union.land.rents[parish];
        union.land.rents[parish] = rents;
        return before;
    }

    public int road(int a, int b, int weeks) {
        if (!isParish(a) || !isParish(b)) {
            return NONE;
        }
        if (a == b || !within(weeks, 1, 9)) {
            return BAD;
        }
        return union.land.layRoad(a, b, weeks) ? 1 : 0;
    }

    public int far(int a, int b) {
        if (!isParish(a) || !isParish(b)) {
            return NONE;
        }
        return union.land.distance(a, b);
    }

    public int person(int sex, int born, int parish, int father, int strength) {
        boolean fatherTold = father != NONE;
        if (!isParish(parish) || (fatherTold && !isPerson(father))) {
            return NONE;
        }
        if (!within(sex, MAN, WOMAN) || !within(born, FIRST_WEEK, union.now) || !within(strength, 0, 9)) {
            return BAD;
        }
        if (fatherTold && (union.persons[father].sex != MAN || union.persons[father].born >= born)) {
            return BAD;
        }
        if (union.personCount >= MOST_PERSONS) {
            return FULL;
        }
        union.persons[union.personCount].begin(sex, born, parish, father, strength);
        return union.personCount++;
    }

    public int about(int person, int what) {
        if (!isPerson(person)) {
            return NONE;
        }
        Person p = union.persons[person];
        switch (what) {
            case 0: return p.sex;
            case 1: return p.born;
            case 2: return p.birthplace;
            case 3: return p.father;
            case 4: return p.strength;
            case 5: return p.at;
            case 6: return p.hunger;
            case 7: return p.ill;
            case 8: return p.ward;
            case 9: return p.master;
            case 10: return p.askedFrom;
            default: return NONE;
        }
    }

    // ---- rights

    public int hire(int person, int parish, int n, int week, boolean yearly, boolean sure) {
        if (!isPerson(person) || !isParish(parish)) {
            return NONE;
        }
        if (!within(n, 1, 200) || !within(week, FIRST_WEEK, union.now)) {
            return BAD;
        }
        return union.tellRight(yearly ? KIND_YEARLY : KIND_HIRED, person, parish, n, week, sure);
    }

    public int rated(int person, int parish, int n, int week, boolean sure) {
        if (!isPerson(person) || !isParish(parish)) {
            return NONE;
        }
        if (!within(n, 1, 9999) || !within(week, FIRST_WEEK, union.now)) {
            return BAD;
        }
        return union.tellRight(KIND_RATED, person, parish, n, week, sure);
    }

    public int wed(int woman, int man, int week, boolean sure) {
        if (!isPerson(woman) || !isPerson(man)) {
            return NONE;
        }
        if (union.persons[woman].sex != WOMAN || union.persons[man].sex != MAN) {
            return BAD;
        }
        if (!within(week, FIRST_WEEK, union.now)) {
            return BAD;
        }
        return union.tellRight(KIND_WED, woman, man, 0, week, sure);
    }

    public int proof(int right, boolean so) {
        if (!isRight(right)) {
            return NONE;
        }
        Right r = union.rights[right];
        if (r.proofEntry != NONE || (so && r.sure)) {
            return STATE;
        }
        if (union.entries >= MOST_ENTRIES) {
            return FULL;
        }
        r.proofEntry = union.entries;
        r.proved = so;
        union.entries++;
        return union.entries;
    }

    public int right(int right, int what) {
        if (!isRight(right)) {
            return NONE;
        }
        Right r = union.rights[right];
        switch (what) {
            case 0: return r.kind;
            case 1: return r.person;
            case 2: return r.place;
            case 3: return r.n;
            case 4: return r.week;
            case 5: return r.heldBy(union.entries);
            default: return NONE;
        }
    }

    public int taken(int right, int k) {
        if (!isRight(right) || !within(k, 0, KINDS - 1)) {
            return NONE;
        }
        Right r = union.rights[right];
        return r.isUnder(k) ? r.worth() : OTHER_KIND;
    }

    public int settle(int person, int bench, int week, int e) {
        if (!isPerson(person) || !isBench(bench) || !isEntryCount(e)) {
            return NONE;
        }
        if (!within(week, FIRST_WEEK, LAST_WEEK)) {
            return BAD;
        }
        this.bench.prepare(union, e);
        return this.bench.whose(union, person, week, takenBy(bench));
    }

    public int maybe(int person, int week, int e, int what) {
        if (!isPerson(person) || !isEntryCount(e) || !within(what, 0, 1)) {
            return NONE;
        }
        if (!within(week, FIRST_WEEK, LAST_WEEK)) {
            return BAD;
        }
        bench.prepare(union, e);
        bench.tryBothWays(union, person, week);
        return what == 0 ? bench.maybe : bench.bestProof();
    }

    // ---- acts

    public int feed(long w, int n) {
        if (!within(n, 1, 8)) {
            return BAD;
        }
        if (union.tapeSize + n > TAPE_ROOM) {
            return FULL;
        }
        for (int i = n - 1; i >= 0; i--) {
            union.tape[union.tapeSize] = (byte) (w >>> (8 * i));
            union.tapeSize++;
        }
        return union.tapeSize;
    }

    public int text(int week) {
        if (!within(week, 0, LAST_WEEK)) {
            return BAD;
        }
        if (union.actCount >= MOST_ACTS) {
            return FULL;
        }
        int fault = readTape(week);
        if (fault != NONE) {
            return FAULT_BASE - fault;
        }
        return union.actCount++;
    }

    public int force(int week, int what) {
        if (!within(what, 0, 2 * WORDS - 1)) {
            return NONE;
        }
        if (!within(week, 0, LAST_WEEK)) {
            return BAD;
        }
        return what < WORDS ? union.law(what, week) : union.actInForce(what - WORDS, week);
    }

    public int offer(int person, int what) {
        if (!isPerson(person) || !within(what, 0, 1)) {
            return NONE;
        }
        findHomes();
        Person p = union.persons[person];
        return what == 0 ? Math.max(0, union.firstClause(WORD_GIVE, p)) : union.firstClause(WORD_WARD, p);
    }

    // ---- orders

    public int order(int person, int to) {
        if (!isPerson(person) || !isParish(to)) {
            return NONE;
        }
        Person p = union.persons[person];
        if (p.at == to) {
            return BAD;
        }
        if (!p.isAtParish()) {
            return STATE;
        }
        if (union.orders.count >= MOST_ORDERS) {
            return FULL;
        }
        return union.orders.write(person, p.at, to, union.now);
    }

    public int appeal(int order, int bench, int e) {
        if (!isOrder(order) || !isBench(bench) || !isEntryCount(e)) {
            return NONE;
        }
        this.bench.prepare(union, e);
        return stands(order, bench) ? 1 : 0;
    }

    public int unlike(int e) {
        if (!isEntryCount(e)) {
            return NONE;
        }
        bench.prepare(union, e);
        int found = 0;
        for (int i = 0; i < union.orders.count; i++) {
            if (stands(i, 0) != stands(i, 1)) {
                found |= 1 << i;
            }
        }
        return found;
    }

    public int carry(int order) {
        if (!isOrder(order)) {
            return NONE;
        }
        Orders all = union.orders;
        Person p = union.persons[all.person[order]];
        if (all.carried[order] || p.at != all.from[order]) {
            return STATE;
        }
        all.carried[order] = true;
        p.at = all.to[order];
        return p.at;
    }

    // ---- the house

    public int house(int ward, int n) {
        if (!within(ward, 0, STORE_PLACE)) {
            return NONE;
        }
        if (!within(n, 0, ward == STORE_PLACE ? MOST_STORE : 20)) {
            return BAD;
        }
        House h = union.house;
        int before = ward == STORE_PLACE ? h.store : h.beds[ward];
        if (ward == STORE_PLACE) {
            h.store = n;
        } else {
            h.beds[ward] = n;
        }
        return before;
    }

    public int price(int n) {
        if (!within(n, 0, 99)) {
            return BAD;
        }
        int before = union.house.price;
        union.house.price = n;
        return before;
    }

    public int frost(int week, int n) {
        if (!within(week, 0, LAST_WEEK) || !within(n, 0, 9)) {
            return BAD;
        }
        if (week < union.now) {
            return STATE;
        }
        int before = union.house.frost[week];
        union.house.frost[week] = n;
        return before;
    }

    public int heard(int parish, int week) {
        if (!isParish(parish)) {
            return NONE;
        }
        if (!within(week, 0, LAST_WEEK)) {
            return BAD;
        }
        return union.newsIn(parish, week);
    }

    public int week(int n) {
        if (!within(n, 1, 20) || union.now + n > LAST_WEEK) {
            return BAD;
        }
        findHomes();
        union.goBy(n);
        return union.now;
    }

    public int gone(int week, int what) {
        if (!isGone(week) || !within(what, 0, 6)) {
            return NONE;
        }
        return what == 6 ? union.costOf(week) : union.past.sum(week, what);
    }

    public int was(int person, int week, int what) {
        if (!isPerson(person) || !isGone(week) || !within(what, 0, 3)) {
            return NONE;
        }
        Past past = union.past;
        if (!past.wasThere(week, person)) {
            return NONE;
        }
        switch (what) {
            case 0: return past.placeOf(week, person);
            case 1: return past.eatenBy(week, person);
            case 2: return past.givenTo(week, person);
            default: return past.hasAsked(week, person) ? 1 : 0;
        }
    }

    public int share(int parish, int week, int e) {
        if (!isParish(parish) || !isGone(week) || !isEntryCount(e)) {
            return NONE;
        }
        bench.prepare(union, e);
        shareOut(week);
        return shares[parish];
    }

    public int sink(int from, int to, int e) {
        if (!isGone(from) || !isGone(to) || !isEntryCount(e)) {
            return NONE;
        }
        if (from > to) {
            return BAD;
        }
        bench.prepare(union, e);
        for (int i = 0; i < PARISHES; i++) {
            burdens[i] = 0;
        }
        for (int week = from; week <= to; week++) {
            shareOut(week);
            for (int i = 0; i < PARISHES; i++) {
                burdens[i] += shares[i];
            }
        }
        for (int i = 0; i < PARISHES; i++) {
            if (burdens[i] > union.land.rents[i]) {
                return i;
            }
        }
        return NOBODY;
    }

    public int owed(int parish, int from, int to, int e) {
        if (!isParish(parish) || !isGone(from) || !isGone(to) || !isEntryCount(e)) {
            return NONE;
        }
        if (from > to) {
            return BAD;
        }
        bench.prepare(union, e);
        int ounces = 0;
        for (int week = from; week <= to; week++) {
            for (int i = 0; i < union.personCount; i++) {
                int eaten = union.past.eatenBy(week, i);
                if (eaten > 0 && bench.whose(union, i, week, TAKE_ALL) == parish) {
                    ounces += eaten;
                }
            }
        }
        return ounces * union.house.price;
    }

    // ---- vagrants, children

    public int night(int name, int parish, int week) {
        if (!isParish(parish)) {
            return NONE;
        }
        if (!within(name, 0, NAMES - 1) || !within(week, 0, LAST_WEEK)) {
            return BAD;
        }
        if (union.vagrants.count >= MOST_NIGHTS) {
            return FULL;
        }
        union.vagrants.sleep(name, parish, week);
        return union.vagrants.count;
    }

    public int one(int names) {
        if (!within(names, 0, (1 << NAMES) - 1)) {
            return BAD;
        }
        return union.vagrants.mayBeOne(names, union.land) ? 1 : 0;
    }

    public int greatest() {
        return union.vagrants.greatestSet(union.land);
    }

    public int master(int master, int room) {
        if (!within(master, 0, MASTERS - 1)) {
            return NONE;
        }
        if (!within(room, 0, 9) || room < union.boundTo(master)) {
            return BAD;
        }
        int before = union.rooms[master];
        union.rooms[master] = room;
        return before;
    }

    public int bind(int person, int master) {
        if (!isPerson(person) || !within(master, 0, MASTERS - 1)) {
            return NONE;
        }
        Person p = union.persons[person];
        int bound = union.boundTo(master);
        boolean free = p.isAtParish() || p.at == AT_HOUSE;
        boolean child = p.ageIn(union.now) < union.law(WORD_BIND, union.now);
        if (!free || !child || bound >= union.rooms[master]) {
            return STATE;
        }
        p.goTo(AT_MASTER);
        p.master = master;
        return bound + 1;
    }

    public int run(int person) {
        if (!isPerson(person)) {
            return NONE;
        }
        Person p = union.persons[person];
        if (p.at != AT_MASTER) {
            return STATE;
        }
        p.goTo(p.birthplace);
        return p.at;
    }

    // ---- choices, tries

    public int choice(int k, int n, int cost) {
        if (!within(k, 0, STORE_PLACE)) {
            return NONE;
        }
        if (!within(n, 1, 99) || !within(cost, 0, 999)) {
            return BAD;
        }
        if (union.house.choices >= MOST_CHOICES) {
            return FULL;
        }
        return union.house.addChoice(k, n, cost);
    }

    public int frosts(int row, long digits, int many) {
        if (!within(row, 0, ROWS - 1)) {
            return NONE;
        }
        if (!within(many, 1, ROW_ROOM)) {
            return BAD;
        }
        long bound = 1;
        for (int i = 0; i < many; i++) {
            bound *= 10;
        }
        if (digits < 0 || digits >= bound) {
            return BAD;
        }
        union.house.setRow(row, digits, many);
        return many;
    }

    public int plan(int what) {
        if (!within(what, 0, 1)) {
            return NONE;
        }
        if (!rowsCanBeTried()) {
            return STATE;
        }
        findHomes();
        rememberBefore();
        int best = NONE;
        int bestCost = 0;
        for (int set = 0; set < 1 << union.house.choices; set++) {
            int cost = union.house.costOfSet(set);
            boolean better = best == NONE || cost < bestCost
                    || (cost == bestCost && Integer.bitCount(set) < Integer.bitCount(best));
            if (better && holdsOut(set)) {
                best = set;
                bestCost = cost;
            }
        }
        if (best == NONE) {
            return NOBODY;
        }
        return what == 0 ? best : bestCost;
    }

    public int tried(int row, int what) {
        if (!within(row, 0, ROWS - 1) || !within(what, 0, 2) || union.house.rowSize[row] == 0) {
            return NONE;
        }
        if (!rowFits(row)) {
            return STATE;
        }
        int fault = readTape(union.now);
        if (fault != NONE) {
            return FAULT_BASE - fault;
        }
        union.actCount++;
        findHomes();
        rememberBefore();
        int start = union.now;
        union.house.tellRow(row, start);
        union.goBy(union.house.rowSize[row]);
        int answer = sumOfTry(start, what);
        bringBack(start);
        union.actCount--;
        return answer;
    }

    // ---- a told week, the image

    public int told(int person, int at) {
        if (!isPerson(person)) {
            return NONE;
        }
        if (!within(at, 0, AT_GRAVE)) {
            return BAD;
        }
        int before = union.persons[person].toldAt;
        union.persons[person].toldAt = at;
        return before;
    }

    public int check(int week) {
        if (!isGone(week)) {
            return NONE;
        }
        for (int i = 0; i < union.personCount; i++) {
            if (union.past.wasThere(week, i) && union.past.placeOf(week, i) != union.persons[i].toldAt) {
                return i;
            }
        }
        return NOBODY;
    }

    public int image() {
        if (kept == null) {
            kept = new Union();
        }
        kept.copyFrom(union);
        return union.now;
    }

    public int undo() {
        if (kept == null) {
            return STATE;
        }
        union.copyFrom(kept);
        return union.now;
    }

    public int count(int what) {
        switch (what) {
            case 0: return union.personCount;
            case 1: return union.rightCount;
            case 2: return union.entries;
            case 3: return union.actCount;
            case 4: return union.orders.count;
            case 5: return union.now;
            case 6: return union.tapeSize;
            case 7: return union.personsAt(AT_HOUSE);
            case 8: return union.personsAt(AT_GRAVE);
            case 9: return union.personsAt(AT_MASTER);
            case 10: return union.vagrants.count;
            case 11: return union.house.choices;
            case 12: return union.house.store;
            case 13: return union.house.price;
            default: return NONE;
        }
    }

    // ---- what the calls share

    private static boolean within(int n, int least, int most) {
        return n >= least && n <= most;
    }

    private static boolean isParish(int parish) {
        return within(parish, 0, PARISHES - 1);
    }

    private static boolean isBench(int bench) {
        return within(bench, 0, 1);
    }

    private boolean isPerson(int person) {
        return within(person, 0, union.personCount - 1);
    }

    private boolean isRight(int right) {
        return within(right, 0, union.rightCount - 1);
    }

    private boolean isOrder(int order) {
        return within(order, 0, union.orders.count - 1);
    }

    private boolean isEntryCount(int e) {
        return within(e, -1, union.entries);
    }

    private boolean isGone(int week) {
        return within(week, 0, union.now - 1);
    }

    private static long takenBy(int bench) {
        return bench == 0 ? TAKE_NONE : TAKE_ALL;
    }

    private boolean stands(int order, int byBench) {
        Orders all = union.orders;
        return bench.whose(union, all.person[order], all.week[order], takenBy(byBench)) == all.to[order];
    }

    /**
     * Finds whose everybody is by BENCH 1. No RIGHT is of a WEEK behind NOW, so that what is found
     * holds for all WEEKS from NOW on, as long as no RIGHT, proof or ACT is told.
     */
    private void findHomes() {
        bench.prepare(union, -1);
        for (int i = 0; i < union.personCount; i++) {
            union.persons[i].home = bench.whose(union, i, union.now, TAKE_ALL);
        }
    }

    /** Empties THE TAPE into the row behind the last ACT's; answers NONE, or the FAULT. */
    private int readTape(int week) {
        Act act = union.acts[union.actCount];
        act.begin(union.tape, union.tapeSize, week);
        union.tapeSize = 0;
        return reader.read(act);
    }

    /** Fills the row of SHARES of a WEEK; the bench is prepared. */
    private void shareOut(int week) {
        weigh(week);
        long all = 0;
        for (int i = 0; i < PARISHES; i++) {
            all += weights[i];
        }
        boolean alike = all <= 0;
        long divisor = alike ? PARISHES : all;
        long cost = union.costOf(week);
        long left = cost;
        for (int i = 0; i < PARISHES; i++) {
            long part = cost * (alike ? 1 : weights[i]);
            shares[i] = (int) (part / divisor);
            rests[i] = part % divisor;
            left -= shares[i];
        }
        for (int turn = 0; turn < PARISHES && left > 0; turn++) {
            int next = greatestRest();
            shares[next]++;
            rests[next] = -1;
            left--;
        }
    }

    private int greatestRest() {
        int best = 0;
        for (int i = 1; i < PARISHES; i++) {
            if (rests[i] > rests[best]) {
                best = i;
            }
        }
        return best;
    }

    private void weigh(int week) {
        int by = union.law(WORD_SHARE, week);
        for (int i = 0; i < PARISHES; i++) {
            if (by == SHARE_BY_RENTS) {
                weights[i] = union.land.rents[i];
            } else {
                weights[i] = by == SHARE_BY_HELPED ? 0 : 1;
            }
        }
        if (by != SHARE_BY_HELPED) {
            return;
        }
        for (int i = 0; i < union.personCount; i++) {
            if (union.past.wasHelped(week, i)) {
                int home = bench.whose(union, i, week, TAKE_ALL);
                if (home >= 0) {
                    weights[home]++;
                }
            }
        }
    }

    private boolean rowFits(int row) {
        return union.now + union.house.rowSize[row] <= LAST_WEEK;
    }

    private boolean rowsCanBeTried() {
        boolean some = false;
        for (int row = 0; row < ROWS; row++) {
            if (!rowFits(row)) {
                return false;
            }
            some |= union.house.rowSize[row] > 0;
        }
        return some;
    }

    /** Whether with a set of CHOICES nobody is REFUSED or becomes DEAD by any row of FROSTS. */
    private boolean holdsOut(int set) {
        int start = union.now;
        boolean well = true;
        for (int row = 0; row < ROWS && well; row++) {
            union.house.doChoices(set);
            union.house.tellRow(row, start);
            for (int i = 0; i < union.house.rowSize[row] && well; i++) {
                union.goBy(1);
                well = union.past.sum(start + i, SUM_REFUSED) == 0 && union.past.sum(start + i, SUM_DEAD) == 0;
            }
            bringBack(start);
        }
        return well;
    }

    private int sumOfTry(int start, int what) {
        int sum = 0;
        for (int week = start; week < union.now; week++) {
            switch (what) {
                case 0: sum += union.past.sum(week, SUM_DEAD); break;
                case 1: sum += union.past.sum(week, SUM_REFUSED); break;
                default: sum += union.costOf(week); break;
            }
        }
        return sum;
    }

    private void rememberBefore() {
        for (int i = 0; i < union.personCount; i++) {
            personsBefore[i].copyFrom(union.persons[i]);
        }
        houseBefore.copyFrom(union.house);
    }

    /** Undoes a try. What it wrote of WEEKS from start on is never read: they did not go by. */
    private void bringBack(int start) {
        for (int i = 0; i < union.personCount; i++) {
            union.persons[i].copyFrom(personsBefore[i]);
        }
        union.house.copyFrom(houseBefore);
        union.now = start;
    }

    /** All that there is, but for THE IMAGE. */
    private static final class Union {
        final Land land = new Land();
        final Person[] persons = new Person[MOST_PERSONS];
        final Right[] rights = new Right[MOST_RIGHTS];
        // One row more than there may be ACTS: for THE TAPE that is tried.
        final Act[] acts = new Act[MOST_ACTS + 1];
        final byte[] tape = new byte[TAPE_ROOM];
        final Orders orders = new Orders();
        final House house = new House();
        final Past past = new Past();
        final Vagrants vagrants = new Vagrants();
        final int[] rooms = new int[MASTERS];
        int personCount;
        int rightCount;
        int entries;
        int actCount;
        int tapeSize;
        int now;

        Union() {
            for (int i = 0; i < MOST_PERSONS; i++) {
                persons[i] = new Person();
            }
            for (int i = 0; i < MOST_RIGHTS; i++) {
                rights[i] = new Right();
            }
            for (int i = 0; i < MOST_ACTS + 1; i++) {
                acts[i] = new Act();
            }
        }

        void copyFrom(Union other) {
            land.copyFrom(other.land);
            for (int i = 0; i < other.personCount; i++) {
                persons[i].copyFrom(other.persons[i]);
            }
            for (int i = 0; i < other.rightCount; i++) {
                rights[i].copyFrom(other.rights[i]);
            }
            for (int i = 0; i < other.actCount; i++) {
                acts[i].copyFrom(other.acts[i]);
            }
            System.arraycopy(other.tape, 0, tape, 0, TAPE_ROOM);
            orders.copyFrom(other.orders);
            house.copyFrom(other.house);
            past.copyFrom(other.past, other.now);
            vagrants.copyFrom(other.vagrants);
            System.arraycopy(other.rooms, 0, rooms, 0, MASTERS);
            personCount = other.personCount;
            rightCount = other.rightCount;
            entries = other.entries;
            actCount = other.actCount;
            tapeSize = other.tapeSize;
            now = other.now;
        }

        int tellRight(int kind, int person, int place, int n, int week, boolean sure) {
            if (rightCount >= MOST_RIGHTS || entries >= MOST_ENTRIES) {
                return FULL;
            }
            Right r = rights[rightCount];
            r.begin(kind, person, place, n, week);
            r.sure = sure;
            r.toldEntry = entries;
            entries++;
            return rightCount++;
        }

        /** The ACT by which a word of THE LAW of a WEEK is; NONE: by no ACT. */
        int actInForce(int word, int week) {
            int best = NONE;
            for (int i = 0; i < actCount; i++) {
                boolean counts = acts[i].week <= week && acts[i].says[word] != NONE;
                if (counts && (best == NONE || acts[i].week >= acts[best].week)) {
                    best = i;
                }
            }
            return best;
        }

        int law(int word, int week) {
            int act = actInForce(word, week);
            return act == NONE ? WITHOUT_ACTS[word] : acts[act].says[word];
        }

        /**
         * The number of the first CLAUSE of a word in force NOW that holds for a PERSON, or NOBODY;
         * without any ward CLAUSE everybody is for WARD 0.
         */
        int firstClause(int word, Person p) {
            int number = actInForce(word, now);
            if (number == NONE) {
                return word == WORD_WARD ? 0 : NOBODY;
            }
            Act act = acts[number];
            for (int i = 0; i < act.clauses; i++) {
                if (act.word[i] == word && act.holds(act.place[i], p, now, house.frost[now])) {
                    return act.n[i];
                }
            }
            return NOBODY;
        }

        int personsAt(int place) {
            int many = 0;
            for (int i = 0; i < personCount; i++) {
                if (persons[i].at == place) {
                    many++;
                }
            }
            return many;
        }

        int boundTo(int master) {
            int many = 0;
            for (int i = 0; i < personCount; i++) {
                if (persons[i].master == master) {
                    many++;
                }
            }
            return many;
        }

        int bedsTaken(int ward) {
            int many = 0;
            for (int i = 0; i < personCount; i++) {
                if (persons[i].ward == ward) {
                    many++;
                }
            }
            return many;
        }

        int newsIn(int parish, int week) {
            int distance = land.distance(0, parish);
            int last = Math.min(week - distance - 1, now - 1);
            return distance == NO_WAY || last < 0 ? 0 : past.sum(last, SUM_ILL_NEWS);
        }

        int costOf(int week) {
            return past.sum(week, SUM_EATEN) * house.price + past.sum(week, SUM_GIVEN);
        }

        /** WEEKS from NOW on go by; the homes are found. */
        void goBy(int weeks) {
            for (int gone = 0; gone < weeks && now < LAST_WEEK; gone++) {
                past.open(now);
                growHungry();
                askAtHouse();
                eat();
                fallIll();
                die();
                leaveHouse();
                for (int i = 0; i < personCount; i++) {
                    persons[i].hunger = Math.min(30, persons[i].hunger);
                    past.write(now, i, persons[i]);
                }
                past.close(now);
                now++;
            }
        }

        private void growHungry() {
            int frost = house.frost[now];
            for (int i = 0; i < personCount; i++) {
                Person p = persons[i];
                p.beginWeek();
                if (p.isAtParish()) {
                    p.hunger = Math.max(0, p.hunger + 1 + frost / 3 - p.strength / 4);
                    int gift = firstClause(WORD_GIVE, p);
                    if (gift != NOBODY) {
                        p.given = gift;
                        p.hunger = Math.max(0, p.hunger - 2);
                        past.add(now, SUM_GIVEN, gift);
                    }
                }
            }
        }

        private void askAtHouse() {
            int fear = law(WORD_FEAR, now);
            for (int i = 0; i < personCount; i++) {
                Person p = persons[i];
                if (p.isAtParish() && p.hunger > fear + newsIn(p.at, now)) {
                    p.asked = true;
                    past.add(now, SUM_ASKED, 1);
                    int ward = firstClause(WORD_WARD, p);
                    if (ward != NOBODY && bedsTaken(ward) < house.beds[ward]) {
                        int from = p.at;
                        p.goTo(AT_HOUSE);
                        p.ward = ward;
                        p.askedFrom = from;
                    } else {
                        past.add(now, SUM_REFUSED, 1);
                    }
                }
            }
        }

        private void eat() {
            int diet = law(WORD_DIET, now);
            for (int i = 0; i < personCount; i++) {
                Person p = persons[i];
                if (p.at != AT_HOUSE) {
                    continue;
                }
                if (house.store >= diet) {
                    house.store -= diet;
                    p.eaten = diet;
                    p.hunger = Math.max(0, p.hunger - 3);
                    past.add(now, SUM_EATEN, diet);
                } else {
                    p.hunger += 2;
                }
            }
        }

        private void fallIll() {
            int frost = house.frost[now];
            for (int i = 0; i < personCount; i++) {
                Person p = persons[i];
                if (p.at == AT_HOUSE) {
                    boolean crowded = 2 * bedsTaken(p.ward) > house.beds[p.ward];
                    p.ill = crowded && p.strength < frost ? p.ill + 1 : Math.max(0, p.ill - 1);
                }
            }
        }

        private void die() {
            for (int i = 0; i < personCount; i++) {
                Person p = persons[i];
                boolean mortal = p.at != AT_MASTER && p.at != AT_GRAVE;
                if (mortal && (p.hunger >= 20 || p.ill >= 5)) {
                    past.add(now, SUM_DEAD, 1);
                    past.add(now, SUM_DIED, p.at == AT_HOUSE ? 1 : 0);
                    p.goTo(AT_GRAVE);
                }
            }
        }

        private void leaveHouse() {
            if (house.frost[now] >= 4) {
                return;
            }
            for (int i = 0; i < personCount; i++) {
                Person p = persons[i];
                if (p.at == AT_HOUSE && p.hunger == 0 && p.strength >= 5) {
                    p.goTo(p.askedFrom);
                }
            }
        }
    }

    /** RENTS, and how FAR it is from each PARISH to each. */
    private static final class Land {
        final int[] rents = new int[PARISHES];
        private final int[] way = new int[PARISHES * PARISHES];

        Land() {
            for (int a = 0; a < PARISHES; a++) {
                rents[a] = 100;
                for (int b = 0; b < PARISHES; b++) {
                    way[a * PARISHES + b] = a == b ? 0 : NO_WAY;
                }
            }
        }

        void copyFrom(Land other) {
            System.arraycopy(other.rents, 0, rents, 0, PARISHES);
            System.arraycopy(other.way, 0, way, 0, way.length);
        }

        int distance(int a, int b) {
            return way[a * PARISHES + b];
        }

        /** Whether some way is shorter by it. */
        boolean layRoad(int a, int b, int weeks) {
            boolean changed = false;
            for (int from = 0; from < PARISHES; from++) {
                for (int to = 0; to < PARISHES; to++) {
                    int byRoad = Math.min(distance(from, a) + weeks + distance(b, to),
                            distance(from, b) + weeks + distance(a, to));
                    if (byRoad < distance(from, to)) {
                        way[from * PARISHES + to] = byRoad;
                        changed = true;
                    }
                }
            }
            return changed;
        }
    }

    private static final class Person {
        int sex;
        int born;
        int birthplace;
        int father;
        int strength;
        int at;
        int hunger;
        int ill;
        int ward;
        int master;
        int askedFrom;
        int toldAt;
        // Of the WEEK that goes by.
        int eaten;
        int given;
        boolean asked;
        // Whose it is by BENCH 1, once that has been found.
        int home;

        void begin(int sex, int born, int birthplace, int father, int strength) {
            this.sex = sex;
            this.born = born;
            this.birthplace = birthplace;
            this.father = father;
            this.strength = strength;
            hunger = 0;
            ill = 0;
            toldAt = 0;
            goTo(birthplace);
        }

        void copyFrom(Person other) {
            sex = other.sex;
            born = other.born;
            birthplace = other.birthplace;
            father = other.father;
            strength = other.strength;
            at = other.at;
            hunger = other.hunger;
            ill = other.ill;
            ward = other.ward;
            master = other.master;
            askedFrom = other.askedFrom;
            toldAt = other.toldAt;
            home = other.home;
        }

        void beginWeek() {
            eaten = 0;
            given = 0;
            asked = false;
        }

        boolean isAtParish() {
            return at < PARISHES;
        }

        /** Goes somewhere; who is there in a WARD or with a MASTER is told of that by the caller. */
        void goTo(int place) {
            at = place;
            ward = NONE;
            master = NONE;
            askedFrom = NONE;
        }

        int ageIn(int week) {
            return (week - born) / WEEKS_OF_A_YEAR;
        }
    }

    private static final class Right {
        int kind;
        int person;
        // The PARISH; of WED the man.
        int place;
        int n;
        int week;
        boolean sure;
        int toldEntry;
        // NONE: neither PROVED nor DISPROVED.
        int proofEntry;
        boolean proved;

        void begin(int kind, int person, int place, int n, int week) {
            this.kind = kind;
            this.person = person;
            this.place = place;
            this.n = n;
            this.week = week;
            proofEntry = NONE;
            proved = false;
        }

        void copyFrom(Right other) {
            begin(other.kind, other.person, other.place, other.n, other.week);
            sure = other.sure;
            toldEntry = other.toldEntry;
            proofEntry = other.proofEntry;
            proved = other.proved;
        }

        int heldBy(int entries) {
            if (toldEntry >= entries) {
                return HELD_UNTOLD;
            }
            if (proofEntry != NONE && proofEntry < entries) {
                return proved ? HELD_SURE : HELD_NOT_SO;
            }
            return sure ? HELD_SURE : HELD_MAY;
        }

        boolean isUnder(int k) {
            int above = kind;
            for (int i = 0; i < KINDS && above != NONE; i++) {
                if (above == k) {
                    return true;
                }
                above = KIND_ABOVE[above];
            }
            return false;
        }

        int worth() {
            return kind == KIND_YEARLY ? 2 * n : n;
        }
    }

    /** Says whose somebody is, by the ENTRIES for which it was prepared. */
    private static final class Bench {
        private final int[] held = new int[MOST_RIGHTS];
        private final boolean[] lawful = new boolean[MOST_RIGHTS];
        private final int[] doubted = new int[MOST_TRIED];
        // PARISHES as bits, a doubted RIGHT being so, or not.
        private final int[] maybeIfSo = new int[MOST_TRIED];
        private final int[] maybeIfNot = new int[MOST_TRIED];
        private int doubtedCount;
        private boolean kin;
        int maybe;

        void prepare(Union of, int e) {
            int entries = e == -1 ? of.entries : e;
            kin = of.law(WORD_KIN, 0) == 1;
            doubtedCount = 0;
            for (int i = 0; i < of.rightCount; i++) {
                held[i] = of.rights[i].heldBy(entries);
                lawful[i] = isLawful(of, of.rights[i]);
                if (held[i] == HELD_MAY && doubtedCount < MOST_TRIED) {
                    doubted[doubtedCount] = i;
                    doubtedCount++;
                }
            }
        }

        private boolean isLawful(Union of, Right r) {
            int week = Math.max(0, r.week);
            if (r.kind == KIND_WED) {
                return of.law(WORD_WED, week) == 1;
            }
            return of.law(r.kind == KIND_RATED ? WORD_RATED : WORD_HIRED, week) <= r.worth();
        }

        /**
         * Whose somebody is as of a WEEK, the MAY RIGHTS in a set of bits being so. The last RIGHT
         * alone counts, so that from a woman the way leads to her man and then from son to father:
         * each is another PERSON, and there is no need to go deeper than they are many.
         */
        int whose(Union of, int person, int week, long so) {
            int who = person;
            int asOf = week;
            for (int step = 0; step <= MOST_PERSONS; step++) {
                Person p = of.persons[who];
                if (asOf < p.born) {
                    return NOBODY;
                }
                int last = lastRight(of, who, asOf, so);
                if (last != NONE && of.rights[last].kind != KIND_WED) {
                    return of.rights[last].place;
                }
                if (last != NONE) {
                    who = of.rights[last].place;
                    asOf = of.rights[last].week;
                } else if (kin && p.father != NONE) {
                    who = p.father;
                    asOf = p.born;
                } else {
                    return p.birthplace;
                }
            }
            return NOBODY;
        }

        private int lastRight(Union of, int person, int week, long so) {
            int last = NONE;
            for (int i = 0; i < of.rightCount; i++) {
                Right r = of.rights[i];
                if (r.person != person || r.week > week || !lawful[i]) {
                    continue;
                }
                boolean isSo = held[i] == HELD_SURE || (held[i] == HELD_MAY && (so >> i & 1L) == 1L);
                if (isSo && (last == NONE || r.week >= of.rights[last].week)) {
                    last = i;
                }
            }
            return last;
        }

        void tryBothWays(Union of, int person, int week) {
            maybe = 0;
            for (int i = 0; i < doubtedCount; i++) {
                maybeIfSo[i] = 0;
                maybeIfNot[i] = 0;
            }
            for (int set = 0; set < 1 << doubtedCount; set++) {
                long so = 0;
                for (int i = 0; i < doubtedCount; i++) {
                    so |= (long) (set >> i & 1) << doubted[i];
                }
                int home = whose(of, person, week, so);
                if (home != NOBODY) {
                    note(set, 1 << home);
                }
            }
        }

        private void note(int set, int home) {
            maybe |= home;
            for (int i = 0; i < doubtedCount; i++) {
                if ((set >> i & 1) == 1) {
                    maybeIfSo[i] |= home;
                } else {
                    maybeIfNot[i] |= home;
                }
            }
        }

        int bestProof() {
            if (Integer.bitCount(maybe) <= 1) {
                return NOBODY;
            }
            int best = NOBODY;
            int fewest = PARISHES + 1;
            for (int i = 0; i < doubtedCount; i++) {
                int left = Math.max(Integer.bitCount(maybeIfSo[i]), Integer.bitCount(maybeIfNot[i]));
                if (left < fewest) {
                    best = doubted[i];
                    fewest = left;
                }
            }
            return best;
        }
    }

    /** A text with what was read in it. */
    private static final class Act {
        final byte[] text = new byte[TAPE_ROOM];
        // For each word what counts (of give and ward how many CLAUSES); NONE: it has no such word.
        final int[] says = new int[WORDS];
        final int[] word = new int[MOST_CLAUSES];
        final int[] n = new int[MOST_CLAUSES];
        // Where the E of a CLAUSE begins in the text.
        final int[] place = new int[MOST_CLAUSES];
        int size;
        int week;
        int clauses;

        void begin(byte[] tape, int size, int week) {
            System.arraycopy(tape, 0, text, 0, size);
            this.size = size;
            this.week = week;
            clauses = 0;
            for (int i = 0; i < WORDS; i++) {
                says[i] = NONE;
            }
        }

        void copyFrom(Act other) {
            begin(other.text, other.size, other.week);
            System.arraycopy(other.says, 0, says, 0, WORDS);
            System.arraycopy(other.word, 0, word, 0, MOST_CLAUSES);
            System.arraycopy(other.n, 0, n, 0, MOST_CLAUSES);
            System.arraycopy(other.place, 0, place, 0, MOST_CLAUSES);
            clauses = other.clauses;
        }

        void addClause(int word, int n, int place) {
            if (clauses >= MOST_CLAUSES) {
                return;
            }
            this.word[clauses] = word;
            this.n[clauses] = n;
            this.place[clauses] = place;
            clauses++;
            if (word == WORD_GIVE || word == WORD_WARD) {
                says[word] = Math.max(0, says[word]) + 1;
            } else {
                says[word] = n;
            }
        }

        /**
         * Whether the E that begins at a place holds. At most six ( are open, so that what waits
         * outside of them has room in one number, three bits for each.
         */
        boolean holds(int place, Person p, int week, int frost) {
            boolean any = false;
            boolean all = true;
            boolean not = false;
            int outside = 0;
            for (int i = place; i < size && text[i] != ';'; i++) {
                byte sign = text[i];
                if (sign == '!') {
                    not = !not;
                } else if (sign == '|') {
                    any |= all;
                    all = true;
                } else if (sign == '(') {
                    outside = outside << 3 | (any ? 4 : 0) | (all ? 2 : 0) | (not ? 1 : 0);
                    any = false;
                    all = true;
                    not = false;
                } else if (sign == ')') {
                    boolean inside = any || all;
                    any = (outside & 4) != 0;
                    all = (outside & 2) != 0 && inside != ((outside & 1) != 0);
                    not = false;
                    outside >>= 3;
                } else if (sign >= 'a' && sign <= 'z') {
                    all &= isSo(i, p, week, frost) != not;
                    not = false;
                }
            }
            return any || all;
        }

        private boolean isSo(int place, Person p, int week, int frost) {
            switch (text[place]) {
                case 'a': return compares(place, p.ageIn(week));
                case 'g': return compares(place, p.strength);
                case 'h': return compares(place, p.hunger);
                case 'f': return compares(place, frost);
                case 's': return compares(place, p.sex);
                case 'p': return compares(place, p.at);
                default: return p.isAtParish() && p.at == p.home;
            }
        }

        private boolean compares(int place, int value) {
            if (place + 2 >= size) {
                return false;
            }
            int number = text[place + 2] - '0';
            if (place + 3 < size && text[place + 3] >= '0' && text[place + 3] <= '9') {
                number = 10 * number + text[place + 3] - '0';
            }
            switch (text[place + 1]) {
                case '<': return value < number;
                case '>': return value > number;
                default: return value == number;
            }
        }
    }

    /** Reads the text of an ACT; where it stops, no ACT can go on. */
    private static final class Reader {
        private byte[] text = new byte[0];
        private int size;
        private int place;
        // How many of ! and ( are open, and, as bits, which of them are !.
        private int open;
        private int nots;

        /** Answers NONE, or the FAULT. */
        int read(Act act) {
            text = act.text;
            size = act.size;
            place = 0;
            for (int i = 0; i < MOST_CLAUSES; i++) {
                if (!readClause(act)) {
                    return place;
                }
                if (place == size) {
                    return NONE;
                }
                if (i == MOST_CLAUSES - 1 || !skip(';')) {
                    return place;
                }
            }
            return place;
        }

        private boolean readClause(Act act) {
            int word = readWord();
            if (word == NONE || !skip(' ')) {
                return false;
            }
            int n = readPart(word);
            if (n == NONE) {
                return false;
            }
            boolean conditional = word == WORD_GIVE || word == WORD_WARD;
            if (conditional && !skip(' ')) {
                return false;
            }
            act.addClause(word, n, place);
            return !conditional || readCondition();
        }

        private int readWord() {
            int longest = 0;
            for (int word = 0; word < WORDS; word++) {
                String name = nameOf(word);
                int same = 0;
                while (same < name.length() && place + same < size && text[place + same] == name.charAt(same)) {
                    same++;
                }
                if (same == name.length()) {
                    place += same;
                    return word;
                }
                longest = Math.max(longest, same);
            }
            place += longest;
            return NONE;
        }

        private static String nameOf(int word) {
            switch (word) {
                case WORD_HIRED: return "hired";
                case WORD_RATED: return "rated";
                case WORD_DIET: return "diet";
                case WORD_FEAR: return "fear";
                case WORD_BIND: return "bind";
                case WORD_WED: return "wed";
                case WORD_KIN: return "kin";
                case WORD_SHARE: return "share";
                case WORD_GIVE: return "give";
                default: return "ward";
            }
        }

        private int readPart(int word) {
            switch (word) {
                case WORD_WED: case WORD_KIN: return readSign("ny");
                case WORD_SHARE: return readSign("rhe");
                case WORD_WARD: return readSign("0123");
                default: return readNumber(4);
            }
        }

        /** An E. Of what is open behind an F the last one is a (: all ! ahead of that F have ended. */
        private boolean readCondition() {
            open = 0;
            nots = 0;
            boolean wanted = true;
            for (int step = 0; step < TAPE_ROOM && place < size; step++) {
                byte sign = text[place];
                if (wanted && (sign == '!' || sign == '(')) {
                    if (open == MOST_OPEN) {
                        return false;
                    }
                    nots = nots << 1 | (sign == '!' ? 1 : 0);
                    open++;
                    place++;
                } else if (wanted) {
                    if (!readFact()) {
                        return false;
                    }
                    wanted = false;
                    endNots();
                } else if (sign == '&' || sign == '|') {
                    wanted = true;
                    place++;
                } else if (sign == ')' && open > 0) {
                    closeOne();
                    endNots();
                    place++;
                } else {
                    break;
                }
            }
            return !wanted && open == 0;
        }

        private void endNots() {
            for (int i = 0; i < MOST_OPEN && open > 0 && (nots & 1) == 1; i++) {
                closeOne();
            }
        }

        private void closeOne() {
            nots >>= 1;
            open--;
        }

        private boolean readFact() {
            if (skip('o')) {
                return true;
            }
            if (readSign("aghf") != NONE) {
                return readSign("<>") != NONE && readNumber(2) != NONE;
            }
            return readSign("sp") != NONE && skip('=') && readNumber(1) != NONE;
        }

        private boolean skip(char sign) {
            if (place >= size || text[place] != sign) {
                return false;
            }
            place++;
            return true;
        }

        /** Which one of some signs comes next, or NONE. */
        private int readSign(String signs) {
            for (int i = 0; i < signs.length(); i++) {
                if (skip(signs.charAt(i))) {
                    return i;
                }
            }
            return NONE;
        }

        private int readNumber(int mostDigits) {
            int number = 0;
            int digits = 0;
            while (digits < mostDigits && place < size && text[place] >= '0' && text[place] <= '9') {
                if (digits > 0 && number == 0) {
                    return number;
                }
                number = 10 * number + text[place] - '0';
                digits++;
                place++;
            }
            return digits == 0 ? NONE : number;
        }
    }

    private static final class Orders {
        final int[] person = new int[MOST_ORDERS];
        final int[] from = new int[MOST_ORDERS];
        final int[] to = new int[MOST_ORDERS];
        final int[] week = new int[MOST_ORDERS];
        final boolean[] carried = new boolean[MOST_ORDERS];
        int count;

        void copyFrom(Orders other) {
            System.arraycopy(other.person, 0, person, 0, MOST_ORDERS);
            System.arraycopy(other.from, 0, from, 0, MOST_ORDERS);
            System.arraycopy(other.to, 0, to, 0, MOST_ORDERS);
            System.arraycopy(other.week, 0, week, 0, MOST_ORDERS);
            for (int i = 0; i < MOST_ORDERS; i++) {
                carried[i] = other.carried[i];
            }
            count = other.count;
        }

        int write(int person, int from, int to, int week) {
            this.person[count] = person;
            this.from[count] = from;
            this.to[count] = to;
            this.week[count] = week;
            carried[count] = false;
            return count++;
        }
    }

    /** BEDS, STORE, PRICE, FROST, and what is chosen and tried for a winter. */
    private static final class House {
        final int[] beds = new int[WARDS];
        final int[] frost = new int[LAST_WEEK + 1];
        // 0: no row was told.
        final int[] rowSize = new int[ROWS];
        private final int[] rowFrost = new int[ROWS * ROW_ROOM];
        private final int[] choiceFor = new int[MOST_CHOICES];
        private final int[] choiceMore = new int[MOST_CHOICES];
        private final int[] choiceCost = new int[MOST_CHOICES];
        int choices;
        int store;
        int price = 1;

        House() {
            for (int i = 0; i < WARDS; i++) {
                beds[i] = 2;
            }
        }

        void copyFrom(House other) {
            System.arraycopy(other.beds, 0, beds, 0, WARDS);
            System.arraycopy(other.frost, 0, frost, 0, frost.length);
            System.arraycopy(other.rowSize, 0, rowSize, 0, ROWS);
            System.arraycopy(other.rowFrost, 0, rowFrost, 0, rowFrost.length);
            System.arraycopy(other.choiceFor, 0, choiceFor, 0, MOST_CHOICES);
            System.arraycopy(other.choiceMore, 0, choiceMore, 0, MOST_CHOICES);
            System.arraycopy(other.choiceCost, 0, choiceCost, 0, MOST_CHOICES);
            choices = other.choices;
            store = other.store;
            price = other.price;
        }

        int addChoice(int k, int n, int cost) {
            choiceFor[choices] = k;
            choiceMore[choices] = n;
            choiceCost[choices] = cost;
            return choices++;
        }

        int costOfSet(int set) {
            int cost = 0;
            for (int i = 0; i < choices; i++) {
                cost += (set >> i & 1) * choiceCost[i];
            }
            return cost;
        }

        void doChoices(int set) {
            for (int i = 0; i < choices; i++) {
                int more = (set >> i & 1) * choiceMore[i];
                int k = choiceFor[i];
                if (k == STORE_PLACE) {
                    store = Math.min(MOST_STORE, store + more);
                } else {
                    beds[k] = Math.min(MOST_PLANNED_BEDS, beds[k] + more);
                }
            }
        }

        void setRow(int row, long digits, int many) {
            long left = digits;
            for (int i = many - 1; i >= 0; i--) {
                rowFrost[row * ROW_ROOM + i] = (int) (left % 10);
                left /= 10;
            }
            rowSize[row] = many;
        }

        /** Tells the FROSTS of a row from a WEEK on, as far as there are WEEKS. */
        void tellRow(int row, int week) {
            for (int i = 0; i < rowSize[row] && week + i <= LAST_WEEK; i++) {
                frost[week + i] = rowFrost[row * ROW_ROOM + i];
            }
        }
    }

    /** The WEEKS that went by. */
    private static final class Past {
        private final int[] sums = new int[LAST_WEEK * SUMS];
        // Of each WEEK and PERSON, in one number: AT, ASKED, EATEN, GIVEN; NONE: it was not there.
        private final long[] marks = new long[LAST_WEEK * MOST_PERSONS];

        void copyFrom(Past other, int weeks) {
            System.arraycopy(other.sums, 0, sums, 0, weeks * SUMS);
            System.arraycopy(other.marks, 0, marks, 0, weeks * MOST_PERSONS);
        }

        void open(int week) {
            for (int i = 0; i < SUMS; i++) {
                sums[week * SUMS + i] = 0;
            }
            for (int i = 0; i < MOST_PERSONS; i++) {
                marks[week * MOST_PERSONS + i] = NONE;
            }
        }

        void add(int week, int what, int n) {
            sums[week * SUMS + what] += n;
        }

        void write(int week, int person, Person p) {
            marks[week * MOST_PERSONS + person] =
                    p.at | (p.asked ? 1L << 4 : 0L) | (long) p.eaten << 8 | (long) p.given << 24;
        }

        void close(int week) {
            int earlier = week > 0 ? sum(week - 1, SUM_ILL_NEWS) : 0;
            add(week, SUM_ILL_NEWS, earlier + sum(week, SUM_REFUSED) + sum(week, SUM_DIED));
        }

        int sum(int week, int what) {
            return sums[week * SUMS + what];
        }

        private long mark(int week, int person) {
            return marks[week * MOST_PERSONS + person];
        }

        boolean wasThere(int week, int person) {
            return mark(week, person) != NONE;
        }

        int placeOf(int week, int person) {
            return (int) (mark(week, person) & 15);
        }

        boolean hasAsked(int week, int person) {
            return (mark(week, person) >> 4 & 1) == 1;
        }

        int eatenBy(int week, int person) {
            return wasThere(week, person) ? (int) (mark(week, person) >> 8 & 65535) : 0;
        }

        int givenTo(int week, int person) {
            return wasThere(week, person) ? (int) (mark(week, person) >> 24 & 65535) : 0;
        }

        boolean wasHelped(int week, int person) {
            return eatenBy(week, person) > 0 || givenTo(week, person) > 0;
        }
    }

    /** NIGHTS, kept by WEEKS. */
    private static final class Vagrants {
        private final int[] name = new int[MOST_NIGHTS];
        private final int[] parish = new int[MOST_NIGHTS];
        private final int[] week = new int[MOST_NIGHTS];
        int count;

        void copyFrom(Vagrants other) {
            System.arraycopy(other.name, 0, name, 0, MOST_NIGHTS);
            System.arraycopy(other.parish, 0, parish, 0, MOST_NIGHTS);
            System.arraycopy(other.week, 0, week, 0, MOST_NIGHTS);
            count = other.count;
        }

        void sleep(int name, int parish, int week) {
            if (count >= MOST_NIGHTS) {
                return;
            }
            int i = count;
            while (i > 0 && this.week[i - 1] > week) {
                this.name[i] = this.name[i - 1];
                this.parish[i] = this.parish[i - 1];
                this.week[i] = this.week[i - 1];
                i--;
            }
            this.name[i] = name;
            this.parish[i] = parish;
            this.week[i] = week;
            count++;
        }

        boolean mayBeOne(int names, Land land) {
            int before = NONE;
            for (int i = 0; i < count; i++) {
                if ((names >> name[i] & 1) == 0) {
                    continue;
                }
                if (before != NONE) {
                    int distance = land.distance(parish[before], parish[i]);
                    if (distance == NO_WAY || week[i] - week[before] < distance) {
                        return false;
                    }
                }
                before = i;
            }
            return true;
        }

        int greatestSet(Land land) {
            int seen = 0;
            for (int i = 0; i < count; i++) {
                seen |= 1 << name[i];
            }
            int best = 0;
            int most = 1;
            for (int set = 0; set < 1 << NAMES; set++) {
                int many = Integer.bitCount(set);
                if ((set & ~seen) == 0 && many > most && mayBeOne(set, land)) {
                    best = set;
                    most = many;
                }
            }
            return best;
        }
    }
}
