/** The bounds that parts 1, 2, 4 and 5 of the "Terms" name: weeks, parishes, persons, rights, whose they are, orders. */
public final class BoundsOfPersonsTest {
    private static final int NONE = -1, BAD = -2, STATE = -3, NOBODY = -5;

    private BoundsOfPersonsTest() {
    }

    public static void main(String[] args) {
        firstWeek();
        lastWeek();
        rents();
        longestWay();
        twoRoads();
        ages();
        fathers();
        longestLine();
        smallestAndGreatestRights();
        rightsOfTheFirstAndLastWeek();
        rightsAheadOfBirth();
        asOfWeeks();
        hiredOfTheLaw();
        ratedOfTheLaw();
        lawOfTheWeekOfARight();
        lawOfWeekZero();
        wedAsOfThatWeek();
        wedToNobodys();
        nobodyYet();
        proofsByEntries();
        benchOneTakesAll();
        tenAreTriedBothWays();
        proofAmongSixParishes();
        proofsOfSeveralPersons();
        ordersOfTheLastWeek();
        Due.end();
    }

    /** Makes NOW 280, 300, or another one that twenty divides. */
    private static void goTo(ParishUnion x, int week) {
        for (int i = 0; i < week / 20; i++) {
            x.week(20);
        }
    }

    // ---- part 1

    private static void firstWeek() {
        ParishUnion x = new ParishUnion();
        Due.due("NOW is 0 at first", x.count(5), 0);
        Due.due("no week went by", x.gone(0, 0), NONE);
        Due.due("no week went by", x.share(0, 0, -1), NONE);
        Due.due("no week went by", x.sink(0, 0, -1), NONE);
        Due.due("no week went by", x.owed(0, 0, 0, -1), NONE);
        Due.due("no week went by", x.check(0), NONE);
        Due.due("born in week 0", x.person(0, 0, 0, -1, 0), 0);
        Due.due("no week went by", x.was(0, 0, 0), NONE);
        Due.due("frost of week 0", x.frost(0, 1), 0);
        Due.due("the image of week 0", x.image(), 0);
        Due.due("one week", x.week(1), 1);
        Due.due("it went by", x.gone(0, 0), 0);
        Due.due("it went by", x.was(0, 0, 0), 0);
        Due.due("undone", x.undo(), 0);
        Due.due("no week went by", x.gone(0, 0), NONE);
        Due.due("no week went by", x.was(0, 0, 0), NONE);
    }

    private static void lastWeek() {
        ParishUnion x = new ParishUnion();
        goTo(x, 300);
        Due.due("NOW is 300", x.count(5), 300);
        Due.due("beyond 300", x.week(1), BAD);
        Due.due("NOW is 300", x.count(5), 300);
        Due.due("born in week 300", x.person(0, 300, 4, -1, 0), 0);
        Due.due("born in week 301", x.person(0, 301, 4, -1, 0), BAD);
        Due.due("whose in week 300", x.settle(0, 0, 300, -1), 4);
        Due.due("whose in week 299", x.settle(0, 0, 299, -1), NOBODY);
        Due.due("frost of week 299", x.frost(299, 1), STATE);
        Due.due("frost of week 300", x.frost(300, 9), 0);
        Due.due("gone 299", x.gone(299, 6), 0);
        Due.due("gone 300", x.gone(300, 6), NONE);
        Due.due("it was not there", x.was(0, 299, 0), NONE);
        Due.due("check 299", x.check(299), NOBODY);
        Due.due("check 300", x.check(300), NONE);
        Due.due("share of 299", x.share(0, 299, -1), 0);
        Due.due("share of 300", x.share(0, 300, -1), NONE);
        Due.due("sink of all", x.sink(0, 299, -1), NOBODY);
        Due.due("sink of 300", x.sink(0, 300, -1), NONE);
        Due.due("owed of all", x.owed(0, 0, 299, -1), 0);
        Due.due("owed of 300", x.owed(0, 0, 300, -1), NONE);
        Due.due("an act from week 300 on", Due.act(x, "give 4 f>8;ward 2 a<1", 300), 0);
        Due.due("it is in force", x.force(300, 8), 1);
        Due.due("ahead of it", x.force(299, 8), 0);
        Due.due("offered by the frost of week 300", x.offer(0, 0), 4);
        Due.due("offered at the age of 0", x.offer(0, 1), 2);
        Due.due("the image of week 300", x.image(), 300);
        Due.due("undone", x.undo(), 300);
    }

    private static void rents() {
        ParishUnion x = new ParishUnion();
        for (int p = 0; p < 6; p++) {
            Due.due("100 at first", x.parish(p, 9999), 100);
            Due.due("9999 at most", x.parish(p, 10000), BAD);
            Due.due("it stays", x.parish(p, 0), 9999);
            Due.due("0 at least", x.parish(p, -1), BAD);
            Due.due("it stays", x.parish(p, 1), 0);
        }
    }

    private static void longestWay() {
        ParishUnion x = new ParishUnion();
        for (int p = 0; p < 5; p++) {
            Due.due("none leads yet", x.far(0, p + 1), 99);
            Due.due("a road of 9 weeks", x.road(p, p + 1, 9), 1);
            Due.due("far", x.far(0, p + 1), 9 * p + 9);
            Due.due("far back", x.far(p + 1, 0), 9 * p + 9);
            Due.due("itself", x.far(p, p), 0);
        }
        Due.due("one week to the last", x.road(5, 0, 1), 1);
        int[] due = {0, 9, 18, 19, 10, 1};
        for (int p = 0; p < 6; p++) {
            Due.due("the fewest weeks, either way about", x.far(0, p), due[p]);
        }
        ParishUnion y = new ParishUnion();
        y.road(0, 1, 3);
        y.road(1, 2, 4);
        Due.due("a road as long as the way", y.road(0, 2, 7), 0);
        Due.due("a road that is a week shorter", y.road(2, 0, 6), 1);
        Due.due("far", y.far(0, 2), 6);
    }

    private static void twoRoads() {
        ParishUnion x = new ParishUnion();
        Due.due("the longer one first", x.road(2, 3, 9), 1);
        Due.due("the shorter one counts", x.road(3, 2, 8), 1);
        Due.due("far", x.far(2, 3), 8);
        Due.due("the longer one again", x.road(2, 3, 9), 0);
        Due.due("the same again", x.road(2, 3, 8), 0);
        Due.due("far", x.far(3, 2), 8);
        Due.due("as short as can be", x.road(2, 3, 1), 1);
        Due.due("far", x.far(3, 2), 1);
        Due.due("others stay", x.far(2, 4), 99);
        Due.due("refused", x.road(2, 4, 10), BAD);
        Due.due("refused", x.road(2, 4, 0), BAD);
        Due.due("refused", x.road(4, 4, 5), BAD);
        Due.due("others stay", x.far(2, 4), 99);
        Due.due("itself", x.far(4, 4), 0);
    }

    /** By 50, cut: as a CLAUSE sees it. */
    private static void ages() {
        ParishUnion x = new ParishUnion();
        int[] born = {0, -49, -50, -99, -100, -3000};
        for (int b : born) {
            x.person(0, b, 1, -1, 9);
        }
        Due.act(x, "give 1 a<1;give 2 a<2;give 3 a<3;give 60 a>59&a<61;give 65 a>64&a<66;give 66 a>65", 0);
        int[] due = {1, 1, 2, 2, 3, 60};
        for (int i = 0; i < born.length; i++) {
            Due.due("born " + born[i], x.offer(i, 0), due[i]);
        }
        x.week(1);
        int[] later = {1, 2, 2, 3, 3, 60};
        for (int i = 0; i < born.length; i++) {
            Due.due("a week later, born " + born[i], x.offer(i, 0), later[i]);
        }
        x.week(19);
        goTo(x, 260);
        x.week(19);
        Due.due("299 weeks later", x.offer(5, 0), 65);
        x.week(1);
        Due.due("300 weeks later", x.offer(5, 0), 66);
    }

    private static void fathers() {
        ParishUnion x = new ParishUnion();
        Due.due("a father that is not there", x.person(0, -10, 0, 0, 0), NONE);
        x.person(0, -10, 1, -1, 0);
        x.person(1, -20, 2, -1, 0);
        Due.due("born in one week", x.person(0, -10, 3, 0, 0), BAD);
        Due.due("born ahead of him", x.person(0, -11, 3, 0, 0), BAD);
        Due.due("born a week behind him", x.person(0, -9, 3, 0, 0), 2);
        Due.due("a woman", x.person(0, -9, 3, 1, 0), BAD);
        Due.due("itself", x.person(0, -8, 3, 3, 0), NONE);
        Due.due("not told", x.person(0, -8, 3, -1, 0), 3);
        Due.due("not told", x.about(3, 3), NONE);
        Due.due("told", x.about(2, 3), 0);
    }

    /** Fifteen men, son behind father, and a woman wed to the last: from her to the first man of all. */
    private static void longestLine() {
        ParishUnion x = new ParishUnion();
        for (int i = 0; i < 15; i++) {
            Due.due("son of the one ahead", x.person(0, -1000 + i, i % 5, i - 1, 5), i);
        }
        Due.due("a woman", x.person(1, -1000, 4, -1, 5), 15);
        Due.due("the last of the line", x.settle(14, 0, 0, -1), 0);
        Due.due("she herself", x.settle(15, 0, 0, -1), 4);
        x.wed(15, 14, -1, true);
        Due.due("by him, by his father, ..", x.settle(15, 0, 0, -1), 0);
        x.hire(0, 5, 50, -999, false, false);
        Due.due("hired in the week of the first son's birth", x.settle(15, 1, 0, -1), 5);
        Due.due("by bench 0", x.settle(15, 0, 0, -1), 0);
        Due.due("both", x.maybe(15, 0, -1, 0), 1 | 1 << 5);
        x.hire(0, 3, 50, -998, false, true);
        Due.due("hired a week behind that", x.settle(15, 1, 0, -1), 5);
        ParishUnion y = new ParishUnion();
        for (int i = 0; i < 16; i++) {
            y.person(i == 15 ? 1 : 0, -1000 + i, i % 6, i - 1, 5);
        }
        y.rated(0, 4, 100, -1000, true);
        Due.due("sixteen in one line", y.settle(15, 0, 0, -1), 4);
        Due.act(y, "kin n", 0);
        Due.due("without kin", y.settle(15, 0, 0, -1), 3);
    }

    // ---- part 2

    private static void smallestAndGreatestRights() {
        ParishUnion x = new ParishUnion();
        x.person(0, 0, 1, -1, 5);
        x.person(1, 0, 1, -1, 5);
        int[] due = {1, 200, 2, 400, 1, 9999};
        Due.due("one week", x.hire(0, 0, 1, 0, false, true), 0);
        Due.due("200 weeks", x.hire(0, 0, 200, 0, false, true), 1);
        Due.due("one week, yearly", x.hire(0, 0, 1, 0, true, true), 2);
        Due.due("200 weeks, yearly", x.hire(0, 0, 200, 0, true, true), 3);
        Due.due("one penny", x.rated(0, 0, 1, 0, true), 4);
        Due.due("9999 pence", x.rated(0, 0, 9999, 0, true), 5);
        for (int r = 0; r < due.length; r++) {
            Due.due("taken for a right", x.taken(r, 0), due[r]);
        }
        Due.due("n of a yearly one", x.right(3, 3), 200);
        Due.due("0 weeks", x.hire(0, 0, 0, 0, true, true), BAD);
        Due.due("201 weeks", x.hire(0, 0, 201, 0, false, true), BAD);
        Due.due("0 pence", x.rated(0, 0, 0, 0, true), BAD);
        Due.due("10000 pence", x.rated(0, 0, 10000, 0, true), BAD);
        Due.due("rights", x.count(1), 6);
        Due.due("entries", x.count(2), 6);
        x.wed(1, 0, 0, true);
        Due.due("wed for a right", x.taken(6, 0), 0);
        Due.due("wed for a wed", x.taken(6, 3), 0);
        Due.due("wed for a yearly one", x.taken(6, 4), -6);
        Due.due("a hired one for a yearly one", x.taken(1, 4), -6);
        Due.due("a yearly one for a hired one", x.taken(3, 1), 400);
    }

    private static void rightsOfTheFirstAndLastWeek() {
        ParishUnion x = new ParishUnion();
        x.person(0, -3000, 1, -1, 5);
        x.person(1, -3000, 2, -1, 5);
        Due.due("week -3001", x.hire(0, 3, 50, -3001, false, true), BAD);
        Due.due("week -3000", x.hire(0, 3, 50, -3000, false, true), 0);
        Due.due("whose in week -3000", x.settle(0, 0, -3000, -1), 3);
        Due.due("week -3001", x.rated(1, 4, 100, -3001, true), BAD);
        Due.due("week -3000", x.wed(1, 0, -3000, true), 1);
        Due.due("whose in week -3000", x.settle(1, 0, -3000, -1), 3);
        Due.due("week 1", x.rated(1, 4, 100, 1, true), BAD);
        x.week(1);
        Due.due("week 1 is NOW", x.rated(1, 4, 100, 1, true), 2);
        Due.due("week 2", x.rated(1, 4, 100, 2, true), BAD);
        Due.due("whose in week 0", x.settle(1, 0, 0, -1), 3);
        Due.due("whose in week 1", x.settle(1, 0, 1, -1), 4);
        Due.due("whose in week 300", x.settle(1, 0, 300, -1), 4);
        Due.due("week 2", x.wed(1, 0, 2, true), BAD);
        Due.due("week 2", x.hire(1, 4, 50, 2, true, true), BAD);
        Due.due("rights", x.count(1), 3);
    }

    /** Each ENTRY changes what is known. */
    private static void proofsByEntries() {
        ParishUnion x = new ParishUnion();
        x.person(0, -10, 0, -1, 5);
        x.hire(0, 1, 50, -9, false, true);
        x.hire(0, 2, 50, -8, false, false);
        x.hire(0, 3, 50, -7, false, false);
        x.proof(1, true);
        x.proof(0, false);
        x.proof(2, false);
        int[] bench0 = {0, 1, 1, 1, 2, 2, 2};
        int[] bench1 = {0, 1, 2, 3, 3, 3, 2};
        int[] maybe = {1, 2, 2 | 4, 2 | 4 | 8, 4 | 8, 4 | 8, 4};
        int[] proof = {NOBODY, NOBODY, 1, 1, 2, 2, NOBODY};
        for (int e = 0; e <= 6; e++) {
            Due.due("bench 0 by " + e, x.settle(0, 0, 0, e), bench0[e]);
            Due.due("bench 1 by " + e, x.settle(0, 1, 0, e), bench1[e]);
            Due.due("maybe by " + e, x.maybe(0, 0, e, 0), maybe[e]);
            Due.due("the proof by " + e, x.maybe(0, 0, e, 1), proof[e]);
        }
        Due.due("by all", x.settle(0, 1, 0, -1), 2);
        Due.due("by 7 of 6", x.settle(0, 1, 0, 7), NONE);
        Due.due("by -2", x.settle(0, 1, 0, -2), NONE);
    }

    // ---- part 4

    private static void rightsAheadOfBirth() {
        ParishUnion x = new ParishUnion();
        x.person(0, -10, 1, -1, 5);
        x.hire(0, 3, 50, -11, false, true);
        Due.due("ahead of birth: nobody's", x.settle(0, 0, -11, -1), NOBODY);
        Due.due("ahead of birth: nobody's", x.settle(0, 1, -11, -1), NOBODY);
        Due.due("from birth on", x.settle(0, 0, -10, -1), 3);
    }

    private static void asOfWeeks() {
        ParishUnion x = new ParishUnion();
        x.person(0, -100, 1, -1, 5);
        x.hire(0, 3, 50, -50, false, true);
        int[] weeks = {-3000, -101, -100, -51, -50, -49, 0, 300};
        int[] due = {NOBODY, NOBODY, 1, 1, 3, 3, 3, 3};
        for (int i = 0; i < weeks.length; i++) {
            Due.due("as of " + weeks[i], x.settle(0, 0, weeks[i], -1), due[i]);
            Due.due("maybe as of " + weeks[i], x.maybe(0, weeks[i], -1, 0), due[i] < 0 ? 0 : 1 << due[i]);
        }
        Due.due("as of -3001", x.settle(0, 0, -3001, -1), BAD);
        Due.due("as of 301", x.settle(0, 0, 301, -1), BAD);
        Due.due("maybe as of -3001", x.maybe(0, -3001, -1, 0), BAD);
        Due.due("maybe as of 301", x.maybe(0, 301, -1, 0), BAD);
    }

    private static void hiredOfTheLaw() {
        int[][] due = {
            // hired of THE LAW, n, whether yearly, whether it counts
            {50, 49, 0, 0}, {50, 50, 0, 1}, {50, 51, 0, 1}, {50, 24, 1, 0}, {50, 25, 1, 1}, {51, 25, 1, 0},
            {0, 1, 0, 1}, {1, 1, 0, 1}, {2, 1, 0, 0}, {2, 1, 1, 1}, {3, 1, 1, 0}, {200, 200, 0, 1}, {201, 200, 0, 0},
            {400, 200, 1, 1}, {401, 200, 1, 0}, {9999, 200, 1, 0}};
        for (int[] d : due) {
            ParishUnion x = new ParishUnion();
            x.person(0, -100, 1, -1, 5);
            Due.act(x, "hired " + d[0], 0);
            x.hire(0, 3, d[1], -50, d[2] == 1, true);
            Due.due("hired " + d[0] + ", " + d[1] + " weeks", x.settle(0, 0, 0, -1), d[3] == 1 ? 3 : 1);
        }
    }

    private static void ratedOfTheLaw() {
        int[][] due = {{100, 99, 0}, {100, 100, 1}, {100, 101, 1}, {0, 1, 1}, {1, 1, 1}, {2, 1, 0}, {9999, 9998, 0},
            {9999, 9999, 1}};
        for (int[] d : due) {
            ParishUnion x = new ParishUnion();
            x.person(0, -100, 1, -1, 5);
            Due.act(x, "rated " + d[0] + ";hired 9999", 0);
            x.rated(0, 3, d[1], -50, true);
            Due.due("rated " + d[0] + ", " + d[1] + " pence", x.settle(0, 0, 0, -1), d[2] == 1 ? 3 : 1);
        }
    }

    private static void lawOfTheWeekOfARight() {
        String[] words = {"hired 51", "rated 101", "wed n"};
        for (int k = 0; k < 3; k++) {
            for (int week = -1; week <= 5; week++) {
                for (int from = 0; from <= 5; from++) {
                    ParishUnion x = new ParishUnion();
                    x.person(1, -100, 1, -1, 5);
                    x.person(0, -100, 3, -1, 5);
                    x.week(5);
                    Due.act(x, words[k], from);
                    switch (k) {
                        case 0: x.hire(0, 3, 50, week, false, true); break;
                        case 1: x.rated(0, 3, 100, week, true); break;
                        default: x.wed(0, 1, week, true); break;
                    }
                    // A WEEK below 0 is under THE LAW of WEEK 0.
                    boolean counts = Math.max(0, week) < from;
                    Due.due(words[k] + " from " + from + ", week " + week, x.settle(0, 0, 5, -1), counts ? 3 : 1);
                }
            }
        }
    }

    /** Kin is by THE LAW of WEEK 0, whenever somebody was born. */
    private static void lawOfWeekZero() {
        ParishUnion x = new ParishUnion();
        x.person(0, -100, 1, -1, 5);
        x.week(5);
        x.person(0, 5, 2, 0, 5);
        Due.due("kin", x.settle(1, 0, 5, -1), 1);
        Due.act(x, "kin n", 1);
        Due.due("kin n from week 1 on", x.settle(1, 0, 5, -1), 1);
        Due.act(x, "kin n", 0);
        Due.due("kin n from week 0 on", x.settle(1, 0, 5, -1), 2);
        Due.act(x, "kin y", 5);
        Due.due("kin y from week 5 on", x.settle(1, 0, 5, -1), 2);
        Due.act(x, "kin y", 0);
        Due.due("kin y from week 0 on", x.settle(1, 0, 5, -1), 1);
    }

    private static void wedAsOfThatWeek() {
        for (int week = -51; week <= -49; week++) {
            ParishUnion x = new ParishUnion();
            x.person(0, -100, 1, -1, 5);
            x.person(1, -100, 2, -1, 5);
            x.hire(0, 3, 50, -50, false, true);
            x.wed(1, 0, week, true);
            Due.due("wed in week " + week + ", he was hired in -50", x.settle(1, 0, 0, -1), week < -50 ? 1 : 3);
            Due.due("a week ahead", x.settle(1, 0, week - 1, -1), 2);
            Due.due("in that week", x.settle(1, 0, week, -1), week < -50 ? 1 : 3);
        }
    }

    private static void wedToNobodys() {
        for (int week = -51; week <= -49; week++) {
            ParishUnion x = new ParishUnion();
            x.person(0, -50, 1, -1, 5);
            x.person(1, -100, 2, -1, 5);
            x.wed(1, 0, week, false);
            Due.due("wed in week " + week + ", he was born in -50", x.settle(1, 1, 0, -1), week < -50 ? NOBODY : 1);
            Due.due("by bench 0 her own", x.settle(1, 0, 0, -1), 2);
            Due.due("maybe", x.maybe(1, 0, -1, 0), week < -50 ? 4 : 2 | 4);
            Due.due("the proof", x.maybe(1, 0, -1, 1), week < -50 ? NOBODY : 0);
            x.rated(1, 5, 100, -1, true);
            Due.due("her own later", x.settle(1, 1, 0, -1), 5);
        }
    }

    private static void nobodyYet() {
        ParishUnion x = new ParishUnion();
        x.person(0, 0, 1, -1, 5);
        for (int bench = 0; bench <= 1; bench++) {
            Due.due("ahead of birth", x.settle(0, bench, -1, -1), NOBODY);
            Due.due("at birth", x.settle(0, bench, 0, -1), 1);
        }
        Due.due("maybe ahead of birth", x.maybe(0, -1, -1, 0), 0);
        Due.due("the proof ahead of birth", x.maybe(0, -1, -1, 1), NOBODY);
        Due.due("no bench 2", x.settle(0, 2, 0, -1), NONE);
        Due.due("no bench -1", x.settle(0, -1, 0, -1), NONE);
    }

    private static void benchOneTakesAll() {
        ParishUnion x = new ParishUnion();
        x.person(0, -100, 1, -1, 5);
        for (int i = 0; i < 40; i++) {
            x.hire(0, i == 39 ? 5 : 3, 50, -50 + i, false, false);
        }
        Due.due("the 40th, too", x.settle(0, 1, 0, -1), 5);
        Due.due("none", x.settle(0, 0, 0, -1), 1);
        Due.due("by 39", x.settle(0, 1, 0, 39), 3);
        Due.due("ten alone", x.maybe(0, 0, -1, 0), 2 | 8);
    }

    private static void tenAreTriedBothWays() {
        for (int ahead = 8; ahead <= 10; ahead++) {
            ParishUnion x = new ParishUnion();
            x.person(0, -100, 1, -1, 5);
            x.person(0, -100, 1, -1, 5);
            // Sure ones are not among the ten.
            x.hire(1, 2, 50, -60, false, true);
            for (int i = 0; i < ahead; i++) {
                x.hire(1, 2, 50, -50, false, false);
            }
            x.hire(0, 4, 50, -40, false, false);
            Due.due(ahead + " are ahead of it", x.maybe(0, 0, -1, 0), ahead < 10 ? 2 | 16 : 2);
            Due.due("the proof", x.maybe(0, 0, -1, 1), ahead < 10 ? ahead + 1 : NOBODY);
            Due.due("by bench 1", x.settle(0, 1, 0, -1), 4);
            x.proof(1, true);
            Due.due("one less is open", x.maybe(0, 0, -1, 0), 2 | 16);
        }
    }

    private static void proofAmongSixParishes() {
        ParishUnion x = new ParishUnion();
        x.person(0, -100, 0, -1, 5);
        for (int p = 1; p < 6; p++) {
            x.hire(0, p, 50, -50 + p, false, false);
        }
        Due.due("all six", x.maybe(0, 0, -1, 0), 63);
        // The first: 5 or 5; the last: 1 or 5.
        Due.due("five are left at most by each", x.maybe(0, 0, -1, 1), 0);
        for (int p = 1; p < 6; p++) {
            x.hire(0, p, 50, -40 + p, false, false);
        }
        Due.due("all six", x.maybe(0, 0, -1, 0), 63);
        // Of the last five rights each, if not so, leaves six; of the first five, too.
        Due.due("six are left by each: the least", x.maybe(0, 0, -1, 1), 0);
    }

    /** What was found of one PERSON is nothing for another. */
    private static void proofsOfSeveralPersons() {
        ParishUnion x = new ParishUnion();
        x.person(0, -100, 0, -1, 5);
        x.person(0, -100, 5, -1, 5);
        x.hire(0, 1, 50, -50, false, false);
        x.hire(0, 2, 50, -49, false, false);
        x.hire(0, 3, 50, -48, false, false);
        x.hire(1, 4, 50, -47, false, false);
        Due.due("of the first", x.maybe(0, 0, -1, 1), 0);
        Due.due("of the second", x.maybe(1, 0, -1, 1), 3);
        Due.due("of the first again", x.maybe(0, 0, -1, 1), 0);
        Due.due("of the second, ahead of his right", x.maybe(1, -48, -1, 1), NOBODY);
    }

    // ---- part 5

    private static void ordersOfTheLastWeek() {
        ParishUnion x = new ParishUnion();
        x.person(0, -100, 0, -1, 9);
        Due.due("none yet", x.unlike(-1), 0);
        Due.due("none yet", x.appeal(0, 0, -1), NONE);
        Due.due("none yet", x.carry(0), NONE);
        goTo(x, 280);
        x.week(19);
        x.order(0, 3);
        x.week(1);
        x.order(0, 3);
        x.hire(0, 3, 50, 300, false, false);
        Due.due("as of week 299", x.appeal(0, 1, -1), 0);
        Due.due("as of week 300", x.appeal(1, 1, -1), 1);
        Due.due("by bench 0", x.appeal(1, 0, -1), 0);
        Due.due("by one bench alone", x.unlike(-1), 2);
        Due.due("by no entry", x.unlike(0), 0);
        Due.due("an order that does not stand is carried, too", x.carry(0), 3);
        Due.due("it is elsewhere", x.carry(1), STATE);
    }
}
