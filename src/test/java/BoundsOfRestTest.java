/** The bounds that parts 7 and 8 of the "Terms" name: vagrants, children, choices, tries, told weeks, the image. */
public final class BoundsOfRestTest {
    private static final int NONE = -1, BAD = -2, STATE = -3, FULL = -4, NOBODY = -5;
    private static final int AT_HOUSE = 6, BOUND = 7, DEAD = 8;

    private BoundsOfRestTest() {
    }

    public static void main(String[] args) {
        nightsThatMayBeTold();
        asFarAsWeeksLater();
        nightsOfOneWeek();
        neverWithoutWay();
        nightsOutOfOrder();
        setsOfNames();
        greatestOfTwoOrMore();
        greatestOfLikeOnes();
        greatestOfAllNames();
        roomOfMasters();
        fullMasters();
        agesOfBoundOnes();
        placesOfBoundOnes();
        runAndRoom();
        sixChoices();
        digitsOfFrosts();
        rowsInPlaceOfOthers();
        planWithoutAnything();
        cheapestFewestLeast();
        planByRows();
        planByEachWeek();
        planAtTheLastWeek();
        storeOfThePlan();
        bedsOfThePlan();
        planByFrostsInPlaceOfThoseTold();
        planLeavesAll();
        triedRefusals();
        triedAtTheLastWeek();
        triedSums();
        triedLeavesAll();
        triedTexts();
        toldWeeks();
        personsOfToldWeeks();
        images();
        imageKeepsAllNumbers();
        counts();
        Due.end();
    }

    private static void goTo(ParishUnion x, int week) {
        while (x.count(5) < week) {
            x.week(Math.min(20, week - x.count(5)));
        }
    }

    private static int weak(ParishUnion x, int parish) {
        return x.person(0, -1000, parish, -1, 0);
    }

    private static int tried(ParishUnion x, String text, int row, int what) {
        Due.feed(x, text);
        return x.tried(row, what);
    }

    // ---- vagrants

    private static void nightsThatMayBeTold() {
        ParishUnion x = new ParishUnion();
        Due.due("none yet", x.count(10), 0);
        int[] names = {-1, 0, 7, 8};
        int[] weeks = {-1, 0, 300, 301};
        int nights = 0;
        for (int name : names) {
            for (int week : weeks) {
                boolean good = name >= 0 && name <= 7 && week >= 0 && week <= 300;
                nights += good ? 1 : 0;
                Due.due("name " + name + ", week " + week, x.night(name, 5, week), good ? nights : BAD);
                Due.due("no parish", x.night(name, 6, week), NONE);
                Due.due("no parish", x.night(name, -1, week), NONE);
                Due.due("nights", x.count(10), nights);
            }
        }
        while (nights < 40) {
            nights++;
            Due.due("one more", x.night(nights % 8, 0, 5), nights);
        }
        Due.due("the 41st", x.night(0, 0, 5), FULL);
        Due.due("bad ahead of full", x.night(8, 0, 5), BAD);
        Due.due("none ahead of full", x.night(0, 6, 5), NONE);
        Due.due("nights", x.count(10), 40);
        // A WEEK that has not come yet, and one that went by.
        ParishUnion y = new ParishUnion();
        y.week(5);
        Due.due("ahead of NOW", y.night(0, 0, 4), 1);
        Due.due("behind NOW", y.night(0, 0, 6), 2);
    }

    private static void asFarAsWeeksLater() {
        for (int far = 1; far <= 9; far++) {
            for (int later = far - 1; later <= far + 1; later++) {
                ParishUnion x = new ParishUnion();
                x.road(2, 4, far);
                x.night(0, 2, 10);
                x.night(1, 4, 10 + later);
                Due.due(later + " weeks later, far " + far, x.one(3), later >= far ? 1 : 0);
                Due.due("the greatest", x.greatest(), later >= far ? 3 : 0);
                Due.due("each by itself", x.one(1) + x.one(2), 2);
            }
        }
        ParishUnion x = new ParishUnion();
        for (int p = 0; p < 5; p++) {
            x.road(p, p + 1, 9);
        }
        x.night(3, 0, 0);
        x.night(4, 5, 44);
        Due.due("a week too few for the longest way", x.one(8 | 16), 0);
        ParishUnion y = new ParishUnion();
        for (int p = 0; p < 5; p++) {
            y.road(p, p + 1, 9);
        }
        y.night(3, 0, 0);
        y.night(4, 5, 45);
        Due.due("as many as the longest way", y.one(8 | 16), 1);
    }

    private static void nightsOfOneWeek() {
        ParishUnion x = new ParishUnion();
        for (int p = 0; p < 5; p++) {
            x.road(p, p + 1, 1);
        }
        x.night(0, 3, 7);
        x.night(1, 3, 7);
        x.night(0, 3, 7);
        Due.due("one parish in one week", x.one(3), 1);
        x.night(2, 4, 7);
        Due.due("two parishes in one week", x.one(1 | 4), 0);
        Due.due("two parishes in one week", x.one(2 | 4), 0);
        x.night(4, 4, 8);
        Due.due("the next one a week later", x.one(3 | 16), 1);
        x.night(4, 3, 9);
        Due.due("and back", x.one(3 | 16), 1);
        x.night(4, 4, 7);
        Due.due("one name in two parishes in one week", x.one(2 | 16), 0);
        Due.due("its nights alone may be one", x.one(16), 1);
    }

    private static void neverWithoutWay() {
        ParishUnion x = new ParishUnion();
        x.night(0, 1, 0);
        x.night(1, 2, 300);
        Due.due("300 weeks are too few", x.one(3), 0);
        x.night(2, 2, 99);
        Due.due("99 weeks are too few", x.one(5), 0);
        x.night(3, 2, 100);
        Due.due("100 weeks are too few", x.one(9), 0);
        x.road(1, 3, 9);
        x.road(3, 2, 9);
        Due.due("a way leads there now", x.one(3), 1);
        Due.due("a way leads there now", x.one(15), 1);
    }

    private static void nightsOutOfOrder() {
        ParishUnion x = new ParishUnion();
        x.road(0, 1, 5);
        x.night(0, 0, 20);
        x.night(1, 1, 10);
        x.night(1, 0, 15);
        x.night(0, 1, 25);
        x.night(1, 0, 0);
        Due.due("by weeks: 0 1 0 0 1", x.one(3), 1);
        x.night(0, 1, 29);
        x.night(0, 1, 5);
        Due.due("one more ahead and behind", x.one(3), 1);
        x.night(0, 0, 9);
        Due.due("between them", x.one(3), 0);
        Due.due("of one name alone", x.one(1), 0);
        Due.due("of the other one alone", x.one(2), 1);
    }

    private static void setsOfNames() {
        ParishUnion x = new ParishUnion();
        Due.due("256 is no set", x.one(256), BAD);
        Due.due("-1 is no set", x.one(-1), BAD);
        Due.due("all without nights", x.one(255), 1);
        x.night(7, 0, 0);
        x.night(7, 1, 1);
        Due.due("the greatest name alone", x.one(128), 0);
        Due.due("all but it", x.one(127), 1);
        Due.due("all", x.one(255), 0);
        Due.due("none", x.one(0), 1);
    }

    private static void greatestOfTwoOrMore() {
        ParishUnion x = new ParishUnion();
        Due.due("no nights", x.greatest(), 0);
        x.night(2, 0, 5);
        x.night(2, 0, 6);
        Due.due("one name alone", x.greatest(), 0);
        x.night(6, 0, 5);
        Due.due("two", x.greatest(), 4 | 64);
        x.night(1, 1, 5);
        Due.due("another one in another parish", x.greatest(), 4 | 64);
        x.road(0, 1, 9);
        x.night(4, 1, 15);
        Due.due("three", x.greatest(), 4 | 16 | 64);
        x.night(6, 1, 7);
        // 6 may be no other one: then 2 and 4, or 1 and 4.
        Due.due("of several the least", x.greatest(), 2 | 16);
    }

    private static void greatestOfLikeOnes() {
        for (int a = 0; a < 7; a++) {
            for (int b = a + 1; b < 7; b++) {
                ParishUnion x = new ParishUnion();
                x.night(a, 0, 5);
                x.night(b, 0, 5);
                x.night(7, 0, 6);
                // Each two may be one, and all three, too.
                Due.due("three", x.greatest(), 1 << a | 1 << b | 128);
                x.road(0, 1, 2);
                x.night(7, 1, 7);
                Due.due("the two", x.greatest(), 1 << a | 1 << b);
            }
        }
    }

    private static void greatestOfAllNames() {
        ParishUnion x = new ParishUnion();
        x.road(0, 1, 1);
        for (int name = 0; name < 8; name++) {
            x.night(name, name % 2, 10 + name);
            Due.due("all up to " + name, x.greatest(), name == 0 ? 0 : (2 << name) - 1);
        }
        Due.due("all", x.one(255), 1);
        x.night(0, 5, 300);
        Due.due("all but the first", x.greatest(), 254);
    }

    // ---- children

    private static void roomOfMasters() {
        ParishUnion x = new ParishUnion();
        for (int m = 0; m < 4; m++) {
            Due.due("0 at first", x.master(m, 9), 0);
            Due.due("ten are too many", x.master(m, 10), BAD);
            Due.due("it stays", x.master(m, 0), 9);
            Due.due("-1 is too few", x.master(m, -1), BAD);
            Due.due("it stays", x.master(m, 3 + m), 0);
        }
        for (int m = 0; m < 4; m++) {
            Due.due("each his own", x.master(m, 0), 3 + m);
        }
        Due.due("no master 4", x.master(4, 0), NONE);
        Due.due("no master -1", x.master(-1, 0), NONE);
    }

    private static void fullMasters() {
        ParishUnion x = new ParishUnion();
        for (int i = 0; i < 12; i++) {
            x.person(0, -100, 1, -1, 9);
        }
        Due.due("no room at first", x.bind(0, 2), STATE);
        x.master(2, 9);
        x.master(3, 2);
        for (int i = 0; i < 9; i++) {
            Due.due("bound", x.bind(i, 2), i + 1);
            Due.due("room may not be less", x.master(2, i), BAD);
        }
        Due.due("no room for a tenth", x.bind(9, 2), STATE);
        isAt("it stays", x, 9, 1);
        Due.due("no master", x.about(9, 9), NONE);
        Due.due("another master", x.bind(9, 3), 1);
        Due.due("bound", x.count(9), 10);
        Due.due("as many as he has", x.master(2, 9), 9);
        Due.due("less than he has", x.master(2, 8), BAD);
        Due.due("less than he has", x.master(3, 0), BAD);
        Due.due("as many as he has", x.master(3, 1), 2);
        Due.due("no room for another one", x.bind(10, 3), STATE);
        x.run(4);
        Due.due("less than he had", x.master(2, 8), 9);
        Due.due("no room", x.bind(10, 2), STATE);
        Due.due("more", x.master(2, 9), 8);
        Due.due("room", x.bind(10, 2), 9);
    }

    private static void isAt(String what, ParishUnion x, int person, int at) {
        Due.due(what, x.about(person, 5), at);
    }

    private static void agesOfBoundOnes() {
        int[] binds = {0, 1, 2, 14, 60, 61, 9999};
        int[] born = {0, -49, -50, -99, -100, -699, -700, -2999, -3000};
        for (int bind : binds) {
            ParishUnion x = new ParishUnion();
            Due.act(x, "bind " + bind, 0);
            x.master(0, 9);
            for (int i = 0; i < born.length; i++) {
                x.person(0, born[i], 1, -1, 9);
                boolean child = -born[i] / 50 < bind;
                Due.due("born " + born[i] + ", bind " + bind, x.bind(i, 0) > 0 ? 1 : STATE, child ? 1 : STATE);
                isAt("where", x, i, child ? BOUND : 1);
            }
        }
        ParishUnion x = new ParishUnion();
        x.person(0, -698, 1, -1, 9);
        x.person(0, -698, 1, -1, 9);
        x.master(0, 2);
        x.week(1);
        Due.due("13 in week 1", x.bind(0, 0), 1);
        x.week(1);
        Due.due("14 in week 2", x.bind(1, 0), STATE);
        Due.act(x, "bind 15", 3);
        Due.due("by the law of week 3", x.bind(1, 0), STATE);
        x.week(1);
        Due.due("in week 3", x.bind(1, 0), 2);
        x.week(20);
        isAt("who is of age stays bound", x, 0, BOUND);
    }

    private static void placesOfBoundOnes() {
        for (int p = 0; p < 6; p++) {
            ParishUnion x = new ParishUnion();
            x.person(1, -100, p, -1, 0);
            x.master(1, 1);
            Due.due("at a parish", x.bind(0, 1), 1);
            Due.due("its master", x.about(0, 9), 1);
            Due.due("bound already", x.bind(0, 1), STATE);
            Due.due("run", x.run(0), p);
        }
        ParishUnion x = new ParishUnion();
        x.person(1, -100, 2, -1, 0);
        x.person(1, -100, 3, -1, 0);
        x.house(0, 1);
        Due.act(x, "fear 0", 0);
        x.master(0, 2);
        x.week(1);
        isAt("in the house", x, 0, AT_HOUSE);
        Due.due("out of it", x.bind(0, 0), 1);
        Due.due("no ward", x.about(0, 8), NONE);
        Due.due("not in the house", x.about(0, 10), NONE);
        Due.due("nobody is in the house", x.count(7), 0);
        x.week(1);
        isAt("the bed is free", x, 1, AT_HOUSE);
        Due.due("to the parish of birth, not to the house", x.run(0), 2);
        x.week(18);
        isAt("dead", x, 1, DEAD);
        Due.due("who is dead is not bound", x.bind(1, 0), STATE);
        Due.due("nor runs", x.run(1), STATE);
        Due.due("no order for the dead", x.order(1, 0), STATE);
    }

    private static void runAndRoom() {
        ParishUnion x = new ParishUnion();
        x.person(1, -100, 2, -1, 0);
        x.person(1, -100, 2, -1, 0);
        x.carry(x.order(0, 5));
        x.master(3, 1);
        Due.due("at a parish", x.run(0), STATE);
        x.bind(0, 3);
        Due.due("no room", x.bind(1, 3), STATE);
        Due.due("an order for one that is bound", x.order(0, 1), STATE);
        Due.due("run", x.run(0), 2);
        isAt("the parish of birth", x, 0, 2);
        Due.due("no master", x.about(0, 9), NONE);
        Due.due("again", x.run(0), STATE);
        Due.due("room again", x.bind(1, 3), 1);
        Due.due("no person 2", x.run(2), NONE);
        Due.due("no person -1", x.run(-1), NONE);
    }

    // ---- choices, rows of frosts

    private static void sixChoices() {
        ParishUnion x = new ParishUnion();
        int[] ns = {0, 1, 99, 100};
        int[] costs = {-1, 0, 999, 1000};
        for (int n : ns) {
            for (int cost : costs) {
                boolean good = n >= 1 && n <= 99 && cost >= 0 && cost <= 999;
                int due = good ? x.count(11) : BAD;
                Due.due(n + " at " + cost, x.choice(4, n, cost), due);
                Due.due("no k 5", x.choice(5, n, cost), NONE);
                Due.due("no k -1", x.choice(-1, n, cost), NONE);
            }
        }
        Due.due("four", x.count(11), 4);
        Due.due("the fifth", x.choice(0, 1, 0), 4);
        Due.due("the sixth", x.choice(3, 1, 0), 5);
        Due.due("the seventh", x.choice(3, 1, 0), FULL);
        Due.due("bad ahead of full", x.choice(3, 0, 0), BAD);
        Due.due("none ahead of full", x.choice(5, 1, 0), NONE);
        Due.due("six", x.count(11), 6);
    }

    private static void digitsOfFrosts() {
        ParishUnion x = new ParishUnion();
        long bound = 1;
        for (int many = 1; many <= 10; many++) {
            bound *= 10;
            Due.due("the greatest digits of " + many, x.frosts(many % 3, bound - 1, many), many);
            Due.due("the least", x.frosts(many % 3, 0, many), many);
            Due.due("a digit too many", x.frosts(many % 3, bound, many), BAD);
            Due.due("below 0", x.frosts(many % 3, -1, many), BAD);
        }
        Due.due("none", x.frosts(0, 0, 0), BAD);
        Due.due("eleven", x.frosts(0, 0, 11), BAD);
        Due.due("the greatest number", x.frosts(0, Long.MAX_VALUE, 10), BAD);
        Due.due("the least number", x.frosts(0, Long.MIN_VALUE, 10), BAD);
        Due.due("2 to the 32", x.frosts(0, 1L << 32, 9), BAD);
        Due.due("2 to the 32", x.frosts(0, 1L << 32, 10), 10);
        Due.due("no row 3", x.frosts(3, 0, 1), NONE);
        Due.due("no row -1", x.frosts(-1, 0, 1), NONE);
    }

    /** In how many WEEKS of a row there is a FROST. */
    private static int weekWithFrost(ParishUnion x, int row, int frost) {
        String condition = frost == 0 ? "f<1" : frost == 9 ? "f>8" : "f>" + (frost - 1) + "&f<" + (frost + 1);
        return tried(x, "give 1 " + condition, row, 2);
    }

    private static void rowsInPlaceOfOthers() {
        ParishUnion x = new ParishUnion();
        weak(x, 1);
        Due.act(x, "fear 99", 0);
        x.frosts(1, 123, 3);
        int[] one = {0, 1, 1, 1, 0, 0, 0, 0, 0, 0};
        int[] two = {0, 0, 0, 0, 0, 0, 0, 0, 2, 0};
        int[] three = {8, 0, 0, 0, 0, 0, 0, 0, 0, 1};
        for (int f = 0; f <= 9; f++) {
            Due.due("123: " + f, weekWithFrost(x, 1, f), one[f]);
        }
        Due.due("a refused row", x.frosts(1, 1000, 3), BAD);
        Due.due("it stays", weekWithFrost(x, 1, 2), 1);
        x.frosts(1, 88, 2);
        for (int f = 0; f <= 9; f++) {
            Due.due("88: " + f, weekWithFrost(x, 1, f), two[f]);
        }
        x.frosts(1, 9, 9);
        for (int f = 0; f <= 9; f++) {
            Due.due("000000009: " + f, weekWithFrost(x, 1, f), three[f]);
        }
        Due.due("rows have their own frosts", tried(x, "fear 99", 0, 0), NONE);
        Due.due("the tape stays", x.count(6), 7);
    }

    // ---- the plan

    private static void planWithoutAnything() {
        ParishUnion x = new ParishUnion();
        Due.due("no row", x.plan(0), STATE);
        Due.due("none ahead of state", x.plan(2), NONE);
        Due.due("none ahead of state", x.plan(-1), NONE);
        x.choice(0, 1, 0);
        Due.due("no row", x.plan(1), STATE);
        x.frosts(2, 0, 1);
        Due.due("nobody is there: the set of none", x.plan(0), 0);
        Due.due("it costs nothing", x.plan(1), 0);
        weak(x, 1);
        x.house(0, 0);
        Due.act(x, "fear 0;ward 1 s=1", 0);
        Due.due("refused, whatever is chosen", x.plan(0), NOBODY);
        Due.due("no cost of none", x.plan(1), NOBODY);
    }

    /** Four who ask in the first WEEK; each lies in WARD 0, without BEDS. */
    private static ParishUnion four() {
        ParishUnion x = new ParishUnion();
        for (int i = 0; i < 4; i++) {
            weak(x, 1);
        }
        x.house(0, 0);
        x.frosts(0, 0, 1);
        Due.act(x, "fear 0", 0);
        return x;
    }

    private static void choose(ParishUnion x, int... bedsAndCosts) {
        for (int i = 0; i < bedsAndCosts.length; i += 2) {
            x.choice(0, bedsAndCosts[i], bedsAndCosts[i + 1]);
        }
    }

    private static void cheapestFewestLeast() {
        ParishUnion a = four();
        choose(a, 3, 1, 4, 3, 1, 1);
        Due.due("two cheaper ones", a.plan(0), 1 | 4);
        Due.due("their cost", a.plan(1), 2);
        ParishUnion b = four();
        choose(b, 3, 1, 4, 2, 1, 1);
        Due.due("one of like cost", b.plan(0), 2);
        Due.due("its cost", b.plan(1), 2);
        ParishUnion c = four();
        choose(c, 4, 2, 4, 2, 4, 2);
        Due.due("the least of like ones", c.plan(0), 1);
        ParishUnion d = four();
        choose(d, 2, 1, 2, 1, 2, 1);
        Due.due("the least of like ones", d.plan(0), 3);
        ParishUnion e = four();
        choose(e, 1, 0, 1, 0, 1, 0, 1, 0, 4, 0);
        Due.due("the fewest of no cost", e.plan(0), 16);
        Due.due("no cost", e.plan(1), 0);
        ParishUnion f = four();
        choose(f, 1, 999, 1, 999, 1, 999, 1, 999, 3, 1);
        Due.due("the greatest costs", f.plan(0), 1 | 16);
        Due.due("the greatest costs", f.plan(1), 1000);
        ParishUnion g = four();
        choose(g, 1, 999, 1, 999, 1, 999, 1, 999);
        Due.due("all", g.plan(0), 15);
        Due.due("all", g.plan(1), 3996);
        ParishUnion h = four();
        choose(h, 1, 1, 1, 1, 1, 1);
        Due.due("a bed too few", h.plan(0), NOBODY);
        h.choice(1, 99, 0);
        h.choice(4, 99, 0);
        Due.due("beds of another ward", h.plan(0), NOBODY);
        h.choice(0, 1, 900);
        Due.due("the sixth", h.plan(0), 1 | 2 | 4 | 32);
    }

    private static void planByRows() {
        for (int worst = 0; worst < 3; worst++) {
            ParishUnion x = new ParishUnion();
            weak(x, 1);
            x.house(0, 0);
            x.choice(0, 1, 7);
            Due.act(x, "fear 1", 0);
            for (int row = 0; row < 3; row++) {
                x.frosts(row, row == worst ? 3 : 2, 1);
            }
            Due.due("one row of three is worse", x.plan(0), 1);
            x.frosts(worst, 2, 1);
            Due.due("none is", x.plan(0), 0);
            ParishUnion y = new ParishUnion();
            weak(y, 1);
            y.house(0, 0);
            y.choice(0, 1, 7);
            Due.act(y, "fear 1", 0);
            y.frosts(worst, 3, 1);
            Due.due("one row alone", y.plan(1), 7);
        }
    }

    /** Hunger is above fear in the last WEEK of a row. */
    private static void planByEachWeek() {
        for (int many = 1; many <= 10; many++) {
            for (int fear = many - 1; fear <= many; fear++) {
                ParishUnion x = new ParishUnion();
                weak(x, 1);
                x.house(0, 0);
                x.choice(0, 1, 2);
                Due.act(x, "fear " + fear, 0);
                x.frosts(1, 0, many);
                Due.due("fear " + fear + " in " + many + " weeks", x.plan(0), fear < many ? 1 : 0);
            }
        }
        // Who becomes DEAD in the tenth WEEK, or in an eleventh.
        for (int weeks = 9; weeks <= 10; weeks++) {
            ParishUnion x = new ParishUnion();
            weak(x, 1);
            Due.act(x, "fear 99", 0);
            x.week(weeks);
            x.frosts(0, 0, 10);
            Due.due("hunger " + weeks + " and ten weeks", x.plan(0), weeks == 10 ? NOBODY : 0);
        }
    }

    private static void planAtTheLastWeek() {
        ParishUnion x = new ParishUnion();
        goTo(x, 290);
        x.frosts(0, 0, 10);
        Due.due("ten weeks from 290 on", x.plan(0), 0);
        x.week(1);
        Due.due("ten weeks from 291 on", x.plan(0), STATE);
        Due.due("none ahead of state", x.plan(2), NONE);
        x.frosts(0, 0, 9);
        Due.due("nine weeks from 291 on", x.plan(0), 0);
        x.frosts(2, 0, 10);
        Due.due("one of two rows goes beyond", x.plan(0), STATE);
        x.frosts(2, 0, 1);
        x.week(8);
        Due.due("nine weeks from 299 on", x.plan(0), STATE);
        x.frosts(0, 0, 1);
        Due.due("one week from 299 on", x.plan(0), 0);
        x.week(1);
        Due.due("one week from 300 on", x.plan(0), STATE);
    }

    private static void storeOfThePlan() {
        // 50 ounces a WEEK; without bread hunger is 1 and 2 more in each: dead in the tenth.
        for (int store = 49; store <= 50; store++) {
            ParishUnion x = new ParishUnion();
            weak(x, 1);
            Due.act(x, "fear 0;diet 50", 0);
            x.house(4, store - 1);
            x.choice(4, 1, 5);
            x.frosts(0, 0, 10);
            Due.due(store + " ounces with the choice", x.plan(0), store < 50 ? NOBODY : 1);
        }
        // Two eat 5000 in the first WEEK: 10000 would be enough, but there are 9999 at most.
        int[] stores = {9900, 9901, 9999};
        for (int store : stores) {
            ParishUnion x = new ParishUnion();
            weak(x, 1);
            weak(x, 1);
            Due.act(x, "fear 0;diet 5000", 0);
            x.house(4, store);
            x.choice(4, 99, 5);
            x.choice(4, 99, 5);
            x.frosts(0, 0, 10);
            Due.due("9999 at most", x.plan(0), NOBODY);
            ParishUnion y = new ParishUnion();
            weak(y, 1);
            Due.act(y, "fear 0;diet 9999", 0);
            y.house(4, store);
            y.choice(4, 99, 5);
            y.frosts(0, 0, 10);
            Due.due("9999", y.plan(0), store < 9900 ? NOBODY : store == 9999 ? 0 : 1);
        }
    }

    private static void bedsOfThePlan() {
        // BEDS beyond 20, by CHOICES: 16 of 31 are more than half, 16 of 32 are not.
        for (int more = 11; more <= 12; more++) {
            ParishUnion x = new ParishUnion();
            for (int i = 0; i < 16; i++) {
                weak(x, 1);
            }
            x.house(2, 20);
            x.house(4, 9999);
            x.choice(2, more, 1);
            Due.act(x, "fear 0;ward 2 o;diet 1", 0);
            x.frosts(0, 99999, 5);
            Due.due("20 and " + more, x.plan(0), more == 12 ? 1 : NOBODY);
        }
        ParishUnion x = new ParishUnion();
        for (int i = 0; i < 16; i++) {
            weak(x, 1);
        }
        x.house(2, 0);
        x.house(4, 9999);
        x.choice(2, 99, 1);
        x.choice(2, 99, 1);
        Due.act(x, "fear 0;ward 2 o;diet 1", 0);
        x.frosts(0, 99999, 5);
        Due.due("99", x.plan(0), 1);
        Due.due("beds as they were", x.house(2, 20), 0);
    }

    private static void planByFrostsInPlaceOfThoseTold() {
        ParishUnion x = new ParishUnion();
        weak(x, 1);
        x.house(0, 0);
        x.choice(0, 1, 2);
        Due.act(x, "fear 3", 0);
        x.frost(0, 9);
        x.frost(1, 9);
        x.frosts(0, 88, 2);
        // By the told FROST 9 hunger would be 4 in WEEK 0; by 8 it is 3, and 6 in WEEK 1.
        Due.due("hunger 6 in week 1", x.plan(0), 1);
        x.frosts(0, 8, 1);
        Due.due("hunger 3 in week 0", x.plan(0), 0);
        x.frosts(0, 9, 1);
        Due.due("hunger 4 in week 0", x.plan(0), 1);
        Due.due("told as it was", x.frost(0, 1), 9);
        Due.due("told as it was", x.frost(1, 1), 9);
        Due.due("told as it was", x.frost(2, 1), 0);
    }

    private static void planLeavesAll() {
        ParishUnion x = four();
        x.house(4, 30);
        x.frosts(1, 9999999999L, 10);
        choose(x, 4, 3, 9, 4);
        x.choice(4, 99, 5);
        Due.feed(x, "kin n");
        // By 4 of 4 BEDS they would fall ill, and by 30 ounces one of them would starve.
        Due.due("nine beds and bread", x.plan(0), 2 | 4);
        int[] due = {4, 0, 0, 1, 0, 0, 5, 0, 0, 0, 0, 3, 30, 1};
        for (int what = 0; what < 14; what++) {
            Due.due("count " + what, x.count(what), due[what]);
        }
        for (int i = 0; i < 4; i++) {
            isAt("as it was", x, i, 1);
            Due.due("hunger as it was", x.about(i, 6), 0);
            Due.due("ill as it was", x.about(i, 7), 0);
            Due.due("ward as it was", x.about(i, 8), NONE);
        }
        Due.due("nothing is heard", x.heard(0, 300), 0);
        Due.due("no week went by", x.gone(0, 0), NONE);
        Due.due("beds as they were", x.house(0, 1), 0);
    }

    // ---- tries

    private static void triedRefusals() {
        ParishUnion x = new ParishUnion();
        Due.feed(x, "x");
        for (int row = -1; row <= 3; row++) {
            Due.due("no row " + row, x.tried(row, 0), NONE);
        }
        x.frosts(1, 0, 1);
        Due.due("no row 0 yet", x.tried(0, 0), NONE);
        Due.due("no row 2 yet", x.tried(2, 0), NONE);
        Due.due("no what -1", x.tried(1, -1), NONE);
        Due.due("no what 3", x.tried(1, 3), NONE);
        Due.due("the tape stays", x.count(6), 1);
        Due.due("a fault", x.tried(1, 2), -10);
        Due.due("the tape is empty", x.count(6), 0);
        Due.due("an empty tape ends too early", x.tried(1, 2), -10);
        for (int what = 0; what <= 2; what++) {
            Due.due("nobody is there", tried(x, "kin n", 1, what), 0);
            Due.due("the tape is empty", x.count(6), 0);
        }
        Due.due("a fault at the end", tried(x, "wed y;kin", 1, 0), -19);
        Due.due("a fault in the midst", tried(x, "wed y;ken n", 1, 0), -17);
        Due.due("no act", x.count(3), 0);
    }

    private static void triedAtTheLastWeek() {
        ParishUnion x = new ParishUnion();
        goTo(x, 290);
        weak(x, 1);
        x.frosts(0, 0, 10);
        x.frosts(1, 0, 9);
        Due.due("ten weeks from 290 on", tried(x, "give 1 o", 0, 2), 10);
        x.week(1);
        Due.due("ten weeks from 291 on", tried(x, "give 1 o", 0, 2), STATE);
        Due.due("the tape stays", x.count(6), 8);
        Due.due("none ahead of state", x.tried(0, 3), NONE);
        Due.due("none ahead of state", x.tried(2, 0), NONE);
        Due.due("nine weeks from 291 on", x.tried(1, 2), 9);
        x.week(9);
        Due.due("state ahead of a fault", tried(x, "x", 0, 2), STATE);
        Due.due("the tape stays", x.count(6), 1);
        x.frosts(2, 0, 1);
        Due.due("one week from 300 on", x.tried(2, 2), STATE);
    }

    private static void triedSums() {
        ParishUnion x = new ParishUnion();
        weak(x, 1);
        weak(x, 2);
        Due.act(x, "fear 99", 0);
        x.week(18);
        Due.act(x, "fear 18;ward 0 s=1", 18);
        x.frosts(0, 0, 1);
        x.frosts(1, 0, 2);
        x.frosts(2, 0, 3);
        // Hunger 19 in WEEK 18, 20 in WEEK 19; from 19 on they are REFUSED, and DEAD with 20.
        int[] dead = {0, 2, 2};
        int[] refused = {2, 4, 4};
        for (int row = 0; row < 3; row++) {
            Due.due("dead", tried(x, "kin n", row, 0), dead[row]);
            Due.due("refused", tried(x, "kin n", row, 1), refused[row]);
            Due.due("cost", tried(x, "kin n", row, 2), 0);
        }
        x.house(4, 9);
        x.price(4);
        // One eats in WEEK 18; the other one has 19 and 2 then.
        Due.due("dead in the house", tried(x, "ward 1 o;diet 5", 0, 0), 1);
        Due.due("not refused", tried(x, "ward 1 o;diet 5", 0, 1), 0);
        Due.due("cost by the price", tried(x, "ward 1 o;diet 5", 0, 2), 20);
        // With a gift the first one does not ask; the other one eats 5.
        Due.due("cost of bread and gifts", tried(x, "ward 1 o;diet 5;give 7 p=1", 0, 2), 27);
        Due.due("who has gifts does not die", tried(x, "give 1 o", 2, 0), 0);
        Due.due("nor is refused", tried(x, "give 1 o", 2, 1), 0);
        Due.due("two gifts a week", tried(x, "give 1 o", 2, 2), 6);
    }

    private static void triedLeavesAll() {
        ParishUnion x = new ParishUnion();
        weak(x, 1);
        x.house(0, 1);
        x.house(4, 7);
        x.frost(0, 4);
        x.frosts(0, 9999999999L, 10);
        x.image();
        Due.due("dead, as it is ill 5", tried(x, "fear 0;diet 7;kin n", 0, 0), 1);
        int[] due = {1, 0, 0, 0, 0, 0, 0, 0, 0, 0, 0, 0, 7, 1};
        for (int what = 0; what < 14; what++) {
            Due.due("count " + what, x.count(what), due[what]);
        }
        isAt("as it was", x, 0, 1);
        Due.due("hunger as it was", x.about(0, 6), 0);
        Due.due("the law as it was", x.force(0, 3), 5);
        Due.due("the law as it was", x.force(0, 6), 1);
        Due.due("by no act", x.force(0, 13), NONE);
        Due.due("frost as it was", x.frost(0, 4), 4);
        Due.due("frost as it was", x.frost(9, 0), 0);
        Due.due("no week went by", x.gone(0, 0), NONE);
        Due.due("nothing is heard", x.heard(0, 300), 0);
        x.week(1);
        Due.due("a week as without the try", x.about(0, 6), 2);
        Due.due("nobody asked", x.gone(0, 5), 0);
        Due.due("nothing eaten", x.gone(0, 0), 0);
        Due.due("not dead", x.gone(0, 4), 0);
        Due.due("the image is there", x.undo(), 0);
    }

    private static void triedTexts() {
        ParishUnion x = new ParishUnion();
        weak(x, 1);
        x.week(2);
        x.frosts(0, 0, 3);
        Due.act(x, "give 100 o", 2);
        Due.due("of like weeks the text", tried(x, "give 1 o", 0, 2), 3);
        Due.due("no give of its own: the act's", tried(x, "kin n", 0, 2), 300);
        Due.act(x, "give 100 o", 3);
        Due.due("of greater weeks the act", tried(x, "give 1 o", 0, 2), 201);
        Due.act(x, "give 50 o", 4);
        Due.due("of greater weeks the act", tried(x, "give 1 o", 0, 2), 151);
        Due.due("acts", x.count(3), 3);
        Due.due("given by the act", x.offer(0, 0), 100);
        for (int i = 3; i < 10; i++) {
            Due.due("acts", Due.act(x, "give " + i + " o", 2), i);
        }
        Due.due("ten acts, and a text", tried(x, "give 1 o", 0, 2), 151);
        Due.due("of the text the last clause", tried(x, "fear 0;give 2 o;fear 99", 0, 1), 0);
        Due.due("eight clauses",
            tried(x, "fear 0;fear 0;fear 0;fear 0;fear 0;fear 0;fear 99;give 2 o", 0, 2), 152);
        Due.due("nine clauses",
            tried(x, "fear 0;fear 0;fear 0;fear 0;fear 0;fear 0;fear 0;fear 0;give 2 o", 0, 2), -10 - 55);
        Due.due("still ten", x.count(3), 10);
        Due.due("given by the tenth", x.offer(0, 0), 9);
        // A try of WEEK 0 is under its own kin.
        ParishUnion y = new ParishUnion();
        y.person(0, -1000, 1, -1, 0);
        y.person(0, -100, 2, 0, 0);
        y.frosts(0, 0, 1);
        Due.due("his father's: not at home", tried(y, "give 1 o", 0, 2), 1);
        Due.due("his own: at home", tried(y, "give 1 o;kin n", 0, 2), 2);
        Due.due("kin as it was", y.settle(1, 0, 0, -1), 1);
    }

    // ---- told weeks

    private static void toldWeeks() {
        ParishUnion x = new ParishUnion();
        Due.due("nobody", x.told(0, 0), NONE);
        Due.due("none went by", x.check(0), NONE);
        weak(x, 0);
        for (int at = 0; at <= 8; at++) {
            Due.due("told", x.told(0, at), Math.max(0, at - 1));
        }
        Due.due("9 is no place", x.told(0, 9), BAD);
        Due.due("-1 is no place", x.told(0, -1), BAD);
        Due.due("it stays", x.told(0, 0), 8);
        x.week(1);
        Due.due("at 0, told 0", x.check(0), NOBODY);
        for (int at = 1; at <= 8; at++) {
            x.told(0, at);
            Due.due("at 0, told " + at, x.check(0), 0);
        }
        Due.due("week 1 did not go by", x.check(1), NONE);
        Due.due("no week -1", x.check(-1), NONE);
        // AT all places: PARISHES, THE HOUSE, BOUND, DEAD.
        ParishUnion y = new ParishUnion();
        for (int p = 0; p < 6; p++) {
            y.person(0, -1000, p, -1, 9);
        }
        weak(y, 1);
        y.person(0, -100, 1, -1, 0);
        weak(y, 2);
        y.house(4, 100);
        y.master(0, 1);
        y.bind(7, 0);
        Due.act(y, "fear 18;ward 0 p=1", 0);
        y.week(20);
        for (int i = 8; i >= 0; i--) {
            y.told(i, i);
        }
        Due.due("all are right", y.check(19), NOBODY);
        for (int i = 8; i >= 0; i--) {
            y.told(i, (i + 1) % 9);
            Due.due("the first that was elsewhere", y.check(19), i);
        }
    }

    private static void personsOfToldWeeks() {
        ParishUnion x = new ParishUnion();
        x.week(1);
        Due.due("nobody was there", x.check(0), NOBODY);
        x.person(0, -1000, 5, -1, 9);
        Due.due("nobody was there then", x.check(0), NOBODY);
        x.week(1);
        Due.due("elsewhere", x.check(1), 0);
        x.told(0, 5);
        Due.due("right", x.check(1), NOBODY);
        for (int i = 1; i < 16; i++) {
            x.person(0, -1000, 5, -1, 9);
        }
        Due.due("one was there then", x.check(1), NOBODY);
        x.week(1);
        for (int i = 1; i < 16; i++) {
            Due.due("the first that was elsewhere", x.check(2), i);
            x.told(i, 5);
        }
        Due.due("all sixteen", x.check(2), NOBODY);
        x.carry(x.order(15, 4));
        Due.due("where it was then", x.check(2), NOBODY);
    }

    // ---- the image

    private static void images() {
        ParishUnion x = new ParishUnion();
        Due.due("none", x.undo(), STATE);
        Due.due("taken", x.image(), 0);
        Due.due("nothing is there", x.undo(), 0);
        weak(x, 1);
        Due.due("undone", x.undo(), 0);
        Due.due("nobody", x.count(0), 0);
        Due.due("the first again", weak(x, 3), 0);
        isAt("at its own", x, 0, 3);
        Due.due("another image", x.image(), 0);
        weak(x, 1);
        x.week(1);
        Due.due("undone", x.undo(), 0);
        Due.due("one", x.count(0), 1);
        Due.due("undone again", x.undo(), 0);
        goTo(x, 300);
        Due.due("taken at the end", x.image(), 300);
        Due.due("undone", x.undo(), 300);
        Due.due("all weeks went by", x.gone(299, 0), 0);
        Due.due("no more", x.week(1), BAD);
    }

    /** As many as there may be of each, and the image of them. */
    private static void imageKeepsAllNumbers() {
        ParishUnion x = States.of(States.FULL).make(false).x;
        int[] due = new int[14];
        for (int what = 0; what < 14; what++) {
            due[what] = x.count(what);
        }
        Due.due("undone", x.undo(), 2);
        for (int what = 0; what < 14; what++) {
            Due.due("count " + what, x.count(what), due[what]);
        }
        Due.due("the last right", x.right(39, 5), 2);
        Due.due("the last order", x.carry(19), 0);
        Due.due("the last act", x.force(9, 13), 9);
        Due.due("the tape", x.feed(0, 1), FULL);
        Due.due("persons", weak(x, 0), FULL);
        Due.due("nights", x.night(0, 0, 0), FULL);
        Due.due("choices", x.choice(0, 1, 1), FULL);
        x.text(0);
        x.run(0);
        x.week(3);
        x.night(0, 0, 0);
        Due.due("undone again", x.undo(), 2);
        for (int what = 0; what < 14; what++) {
            Due.due("count " + what, x.count(what), due[what]);
        }
        Due.due("bound again", x.about(0, 5), BOUND);
        Due.due("not carried again", x.carry(19), 0);
    }

    private static void counts() {
        ParishUnion x = new ParishUnion();
        for (int what = 0; what < 14; what++) {
            Due.due("count " + what, x.count(what), what == 13 ? 1 : 0);
        }
        Due.due("no what 14", x.count(14), NONE);
        Due.due("no what -1", x.count(-1), NONE);
        Due.due("the least number", x.count(Integer.MIN_VALUE), NONE);
        Due.due("the greatest number", x.count(Integer.MAX_VALUE), NONE);
    }
}
