/** Objects in known states, made by few calls, so that many more are left of the 512 of each. */
final class States {
    /** Nothing was told yet. */
    static final int NEW = 0;
    /** Some of everything; PERSONS are AT PARISHES, in THE HOUSE, BOUND and DEAD; an IMAGE was taken. */
    static final int RICH = 1;
    /** As many of everything as there may be. */
    static final int FULL = 2;
    /** NOW is 300. */
    static final int LATE = 3;
    static final int COUNT = 4;

    final int kind;
    int now;
    int persons;
    int rights;
    int entries;
    int orders;
    /** Of each PERSON. */
    int[] sex = {};
    int[] born = {};
    int[] at = {};
    /** Of each RIGHT: whether it was PROVED or DISPROVED, and whether it was told as SURE. */
    boolean[] proved = {};
    boolean[] sure = {};
    /** Of each ORDER: whether it can be CARRIED. */
    boolean[] canCarry = {};
    /** Of each MASTER. */
    int[] room = {0, 0, 0, 0};
    int[] has = {0, 0, 0, 0};
    /** How many FROSTS each row has. */
    int[] rows = {0, 0, 0};
    int choices;
    int nights;
    int acts;
    int tape;
    /** The place of the FAULT in what is on THE TAPE. */
    int fault;
    boolean image;

    private States(int kind) {
        this.kind = kind;
    }

    static States of(int kind) {
        States s = new States(kind);
        switch (kind) {
            case RICH: s.tellRich(); break;
            case FULL: s.tellFull(); break;
            case LATE: s.tellLate(); break;
            default: break;
        }
        return s;
    }

    private void tellRich() {
        now = 5;
        persons = 7;
        rights = 6;
        entries = 9;
        orders = 3;
        sex = new int[] {0, 1, 0, 0, 1, 0, 1};
        born = new int[] {-1500, -1400, -300, -1600, -200, -3000, 0};
        at = new int[] {1, 6, 7, 8, 6, 0, 0};
        proved = new boolean[] {false, false, true, false, true, true};
        sure = new boolean[] {true, false, false, false, true, false};
        canCarry = new boolean[] {true, false, false};
        room = new int[] {2, 9, 0, 1};
        has = new int[] {0, 1, 0, 0};
        rows = new int[] {3, 10, 0};
        choices = 2;
        nights = 3;
        acts = 2;
        tape = 9;
        fault = 9;
        image = true;
    }

    private void tellFull() {
        now = 2;
        persons = 16;
        rights = 40;
        entries = 80;
        orders = 20;
        sex = new int[16];
        born = new int[16];
        at = new int[16];
        for (int i = 0; i < 16; i++) {
            sex[i] = i % 2;
            born[i] = -i;
            at[i] = i == 0 ? 7 : i % 6;
        }
        proved = new boolean[40];
        sure = new boolean[40];
        canCarry = new boolean[20];
        for (int i = 0; i < 40; i++) {
            proved[i] = true;
            sure[i] = i % 4 == 1;
            canCarry[i % 20] = true;
        }
        room = new int[] {1, 0, 0, 0};
        has = new int[] {1, 0, 0, 0};
        rows = new int[] {10, 10, 10};
        choices = 6;
        nights = 40;
        acts = 10;
        tape = 150;
        fault = 0;
        image = true;
    }

    private void tellLate() {
        now = 300;
        persons = 1;
        sex = new int[] {0};
        born = new int[] {300};
        at = new int[] {3};
        rows = new int[] {1, 0, 0};
        tape = 5;
        fault = -1;
    }

    /** Makes the state, and looks whether it is the one that is told here. */
    Both make(boolean withModel) {
        Both b = new Both(withModel);
        switch (kind) {
            case RICH: makeRich(b); break;
            case FULL: makeFull(b); break;
            case LATE: makeLate(b); break;
            default: break;
        }
        int[] due = {persons, rights, entries, acts, orders, now, tape};
        for (int i = 0; i < due.length; i++) {
            Due.due("state " + kind + ": count " + i, b.x.count(i), due[i]);
        }
        return b;
    }

    private static void makeRich(Both b) {
        b.act("fear 9;ward 1 s=1;diet 5;give 2 a<14&h>2;share h", 0);
        b.act("give 3 o;kin n", 200);
        b.tell("parish", 2, 40);
        b.tell("road", 0, 1, 2);
        b.tell("road", 1, 2, 3);
        b.tell("person", 0, -1500, 1, -1, 9);
        b.tell("person", 1, -1400, 2, -1, 2);
        b.tell("person", 0, -300, 3, 0, 1);
        b.tell("person", 0, -1600, 0, -1, 0);
        b.tell("person", 1, -200, 1, 2, 0);
        b.tell("person", 0, -3000, 4, -1, 9);
        b.tell("person", 1, 0, 0, -1, 9);
        b.tell("hire", 0, 2, 60, -400, 0, 1);
        b.tell("hire", 0, 3, 30, -200, 1, 0);
        b.tell("rated", 5, 1, 150, -100, 0);
        b.tell("wed", 1, 0, -350, 0);
        b.tell("hire", 6, 4, 80, 0, 0, 1);
        b.tell("rated", 6, 0, 200, 0, 0);
        b.tell("proof", 2, 1);
        b.tell("proof", 4, 0);
        b.tell("master", 0, 2);
        b.tell("master", 1, 9);
        b.tell("master", 3, 1);
        b.tell("bind", 2, 1);
        b.tell("order", 0, 2);
        b.tell("order", 5, 0);
        b.tell("order", 3, 1);
        b.tell("house", 4, 200);
        b.tell("house", 0, 3);
        for (int week = 0; week < 5; week++) {
            b.tell("frost", week, 9);
        }
        b.tell("frost", 7, 8);
        b.x.image();
        b.tell("price", 3);
        b.tell("carry", 1);
        b.tell("week", 5);
        b.tell("proof", 5, 0);
        b.tell("night", 0, 0, 3);
        b.tell("night", 1, 1, 5);
        b.tell("night", 7, 5, 300);
        b.tell("choice", 4, 99, 20);
        b.tell("choice", 1, 3, 5);
        b.tell("frosts", 0, 937, 3);
        b.tell("frosts", 1, 5000000000L, 10);
        b.tell("told", 0, 6);
        b.tell("told", 3, 8);
        b.feed("wed n;hir");
    }

    private static void makeFull(Both b) {
        for (int i = 0; i < 16; i++) {
            b.tell("person", i % 2, -i, i % 6, -1, 9);
        }
        b.tell("master", 0, 1);
        b.tell("bind", 0, 0);
        for (int i = 0; i < 40; i++) {
            int p = i % 16;
            switch (i % 4) {
                case 0: b.tell("hire", p, 1, 50, 0, i % 8 == 0 ? 1 : 0, 0); break;
                case 1: b.tell("rated", p, 2, 100, 0, 1); break;
                default: b.tell("hire", p, 3, 200, -i, 0, 0); break;
            }
        }
        for (int i = 0; i < 40; i++) {
            b.tell("proof", i, i % 4 == 1 || i % 3 == 0 ? 0 : 1);
        }
        for (int i = 0; i < 10; i++) {
            b.act("fear " + i, i);
        }
        for (int i = 0; i < 20; i++) {
            int p = 1 + i % 15;
            b.tell("order", p, (p + 1) % 6);
        }
        b.tell("week", 2);
        for (int i = 0; i < 40; i++) {
            b.tell("night", i % 8, i % 6, 7 * i);
        }
        for (int i = 0; i < 6; i++) {
            b.tell("choice", i % 5, 99, i);
        }
        for (int i = 0; i < 3; i++) {
            b.tell("frosts", i, 9999999999L, 10);
        }
        for (int i = 0; i < 18; i++) {
            b.tell("feed", 0x3b3b3b3b3b3b3b3bL, 8);
        }
        b.tell("feed", 0, 6);
        b.x.image();
    }

    private static void makeLate(Both b) {
        for (int i = 0; i < 15; i++) {
            b.tell("week", 20);
        }
        b.tell("person", 0, 300, 3, -1, 5);
        b.tell("frosts", 0, 0, 1);
        b.feed("wed n");
    }
}
