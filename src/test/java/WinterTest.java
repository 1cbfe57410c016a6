/** Promises 39 to 42: choices, rows of frosts, the plan, a text that is tried. */
public final class WinterTest {
    private static final int NONE = -1, BAD = -2, STATE = -3, FULL = -4, NOBODY = -5;

    private WinterTest() {
    }

    public static void main(String[] args) {
        choices();
        frosts();
        planRefusals();
        plan();
        planTies();
        planOfRows();
        planTops();
        tried();
        triedBeside();
        triedWithTenActs();
        triedRefusals();
        beyond();
        Due.end();
    }

    private static void choices() {
        ParishUnion x = new ParishUnion();
        Due.due("choice none", x.choice(5, 1, 0), NONE);
        Due.due("choice none", x.choice(-1, 0, 0), NONE);
        Due.due("choice bad: n", x.choice(0, 0, 0), BAD);
        Due.due("choice bad: n", x.choice(0, 100, 0), BAD);
        Due.due("choice bad: cost", x.choice(0, 1, -1), BAD);
        Due.due("choice bad: cost", x.choice(0, 1, 1000), BAD);
        for (int i = 0; i < 6; i++) {
            Due.due("choice", x.choice(i % 5, 99, 999), i);
        }
        Due.due("choice full", x.choice(0, 1, 0), FULL);
        Due.due("bad ahead of full", x.choice(0, 0, 0), BAD);
        Due.due("choices", x.count(11), 6);
    }

    private static void frosts() {
        ParishUnion x = new ParishUnion();
        Due.due("frosts none", x.frosts(3, 0, 1), NONE);
        Due.due("frosts none", x.frosts(-1, -1, 0), NONE);
        Due.due("frosts bad: many", x.frosts(0, 0, 0), BAD);
        Due.due("frosts bad: many", x.frosts(0, 0, 11), BAD);
        Due.due("frosts bad: digits", x.frosts(0, 10, 1), BAD);
        Due.due("frosts bad: digits", x.frosts(0, -1, 1), BAD);
        Due.due("frosts bad: digits", x.frosts(0, 10000000000L, 10), BAD);
        Due.due("frosts bad: digits", x.frosts(0, Long.MIN_VALUE, 10), BAD);
        Due.due("no row yet", x.plan(0), STATE);
        Due.due("frosts", x.frosts(0, 9999999999L, 10), 10);
        Due.due("frosts", x.frosts(2, 0, 1), 1);
        Due.due("frosts", x.frosts(1, 7, 3), 3);
        Due.due("nobody is there", x.plan(0), 0);
        // Hunger of a PERSON without strength: 1 + frost / 3 a week; 0, 0, 7 and 7, 0, 0 differ at the give CLAUSE.
        x.person(0, -1000, 1, -1, 0);
        Due.feed(x, "give 100 f>6&h<5;give 1 h<2;fear 99");
        Due.due("the first digit is the first week's", x.tried(1, 2), 1 + 1 + 100);
        x.frosts(1, 700, 3);
        Due.feed(x, "give 100 f>6&h<4;give 1 h<2;fear 99");
        Due.due("the first digit is the first week's", x.tried(1, 2), 100 + 0 + 0);
    }

    private static void planRefusals() {
        ParishUnion x = new ParishUnion();
        Due.due("plan none", x.plan(2), NONE);
        Due.due("plan none", x.plan(-1), NONE);
        Due.due("plan: no row", x.plan(0), STATE);
        x.frosts(1, 0, 1);
        Due.due("plan without choices", x.plan(0), 0);
        Due.due("plan without choices", x.plan(1), 0);
    }

    /** Two men who ask in the first week, in ward 0 with no beds, and eat 10 a week. */
    private static ParishUnion two() {
        ParishUnion x = new ParishUnion();
        x.person(0, -1000, 1, -1, 0);
        x.person(0, -1000, 1, -1, 0);
        x.house(0, 0);
        Due.act(x, "fear 0", 0);
        return x;
    }

    private static void plan() {
        ParishUnion x = two();
        x.frosts(0, 0, 1);
        Due.due("no plan", x.plan(0), NOBODY);
        Due.due("no plan", x.plan(1), NOBODY);
        x.choice(0, 1, 3);
        Due.due("one bed is too few", x.plan(0), NOBODY);
        x.choice(1, 9, 1);
        x.choice(0, 1, 4);
        Due.due("two beds", x.plan(0), 1 | 4);
        Due.due("two beds", x.plan(1), 7);
        x.choice(0, 2, 6);
        Due.due("cheaper", x.plan(0), 8);
        Due.due("cheaper", x.plan(1), 6);
        Due.due("all is as before", x.count(5) + x.count(7) + x.count(12), 0);
        Due.due("all is as before", x.house(0, 0), 0);
        Due.due("all is as before", x.about(0, 6), 0);
        Due.due("all is as before", x.frost(0, 0), 0);
        // Ten weeks without bread: hunger 1 + 10 * 2 in the tenth.
        x.frosts(0, 0, 10);
        Due.due("they would starve", x.plan(0), NOBODY);
        x.frosts(0, 0, 9);
        Due.due("in nine weeks they do not", x.plan(0), 8);
        x.frosts(0, 0, 10);
        x.choice(4, 20, 5);
        Due.due("bread", x.plan(0), 8 | 16);
        Due.due("bread", x.plan(1), 11);
        x.house(4, 30);
        Due.due("bread from the store", x.plan(0), 8);
        x.week(1);
        Due.due("from now on: refused now and hungry", x.about(1, 6), 1);
        Due.due("they still ask", x.plan(1), 6);
    }

    private static void planTies() {
        ParishUnion x = two();
        x.frosts(0, 0, 1);
        x.choice(0, 1, 2);
        x.choice(0, 1, 2);
        x.choice(0, 2, 4);
        x.choice(0, 3, 4);
        Due.due("of like ones the fewest, then the least", x.plan(0), 4);
        ParishUnion y = two();
        y.frosts(0, 0, 1);
        y.choice(0, 1, 1);
        y.choice(0, 1, 1);
        y.choice(0, 1, 1);
        Due.due("the least as bits", y.plan(0), 3);
        ParishUnion z = two();
        z.frosts(0, 0, 1);
        z.choice(0, 9, 0);
        z.choice(1, 9, 0);
        Due.due("the fewest of no cost", z.plan(0), 1);
    }

    private static void planOfRows() {
        ParishUnion x = new ParishUnion();
        x.person(0, -1000, 1, -1, 0);
        x.house(0, 0);
        x.choice(0, 1, 5);
        // Hunger is above 5 in the sixth week of frost 0, in the second of frost 9.
        x.frosts(0, 0, 5);
        Due.due("nobody asks", x.plan(0), 0);
        x.frosts(1, 90, 2);
        Due.due("hunger 5 is not above fear", x.plan(0), 0);
        x.frosts(2, 93, 2);
        Due.due("the worst row counts", x.plan(0), 1);
        x.frosts(2, 0, 1);
        Due.due("another row 2", x.plan(0), 0);
        x.frost(0, 9);
        x.frost(1, 9);
        Due.due("told in place of those told", x.plan(0), 0);
        x.frosts(1, 99, 2);
        Due.due("rows one for itself", x.plan(0), 1);
    }

    private static void planTops() {
        ParishUnion x = new ParishUnion();
        for (int i = 0; i < 2; i++) {
            x.person(0, -1000, 1, -1, 0);
        }
        x.house(4, 9950);
        x.house(0, 20);
        x.choice(4, 99, 1);
        x.choice(4, 99, 1);
        Due.act(x, "fear 0;diet 5000", 0);
        x.frosts(0, 9L, 1);
        // 9999 ounces feed one alone; the other one lives for a week all the same.
        Due.due("plan", x.plan(0), 0);
        Due.feed(x, "diet 5000");
        Due.due("tried", x.tried(0, 2), 5000);
        x.frosts(0, 99999L, 5);
        // With 10000 both could eat in the first week.
        Due.due("hunger kills neither in five weeks", x.plan(0), 0);
        ParishUnion y = new ParishUnion();
        y.person(0, -1000, 1, -1, 0);
        y.person(0, -1000, 1, -1, 0);
        y.house(4, 9999);
        y.choice(4, 1, 1);
        Due.act(y, "fear 0;diet 5000", 0);
        y.frosts(0, 0, 10);
        Due.due("the store is 9999 at most: one starves", y.plan(0), NOBODY);
        ParishUnion z = new ParishUnion();
        for (int i = 0; i < 16; i++) {
            z.person(0, -1000, 1, -1, 0);
        }
        z.house(4, 9999);
        z.house(0, 20);
        z.choice(0, 99, 1);
        z.choice(0, 99, 1);
        Due.act(z, "fear 0;diet 1", 0);
        z.frosts(0, 0, 10);
        Due.due("beds enough", z.plan(0), 0);
        // Frost 9 from 32 beds on: 16 of them are not more than half; five weeks of illness kill.
        z.frosts(0, 99999, 5);
        Due.due("beds against illness", z.plan(0), 1);
    }

    private static void tried() {
        ParishUnion x = two();
        x.house(4, 5);
        x.frosts(0, 0, 10);
        Due.feed(x, "fear 50");
        Due.due("nobody asks", x.tried(0, 1), 0);
        Due.due("the tape is empty", x.count(6), 0);
        Due.feed(x, "wed y");
        Due.due("two are refused in each week: they hear nothing", x.tried(0, 1), 20);
        x.road(0, 1, 1);
        Due.feed(x, "wed y");
        // Hunger is 1 .. 10, heard is 0, 0, 2, 4, 6, 6, 6, 6, 8, 10: weeks 0, 1, 2, 6, 7, 8.
        Due.due("two are refused, by what they hear", x.tried(0, 1), 12);
        Due.feed(x, "ward 1 o");
        Due.due("dead without bread", x.tried(0, 0), 2);
        Due.feed(x, "ward 1 o;diet 1");
        Due.due("bread for some", x.tried(0, 2), 5);
        x.price(7);
        Due.feed(x, "ward 1 o;diet 1;give 3 o");
        // Two gifts in each week: hunger is 0 then, and nobody asks.
        Due.due("gifts", x.tried(0, 2), 60);
        Due.feed(x, "ward 1 o;diet 1;give 3 f>0");
        Due.due("bread by its price", x.tried(0, 2), 35);
        Due.due("all is as before", x.count(3), 1);
        Due.due("all is as before", x.count(5), 0);
        Due.due("all is as before", x.count(12), 5);
        Due.due("all is as before", x.count(7) + x.count(8), 0);
        Due.due("all is as before", x.about(0, 6), 0);
        Due.due("all is as before", x.force(0, 2), 10);
        Due.due("all is as before", x.gone(0, 0), NONE);
        Due.feed(x, "diet");
        Due.due("a fault", x.tried(0, 0), -14);
        Due.due("the tape is empty", x.count(6), 0);
        Due.due("an empty tape", x.tried(0, 0), -10);
    }

    /** The text is an ACT from NOW on: later ones go ahead of it, and RIGHTS of NOW are under it. */
    private static void triedBeside() {
        ParishUnion x = new ParishUnion();
        x.person(0, -1000, 1, -1, 0);
        x.week(1);
        Due.act(x, "give 5 o;fear 99", 1);
        Due.act(x, "give 7 o", 3);
        x.frosts(0, 0, 3);
        Due.feed(x, "give 1 o");
        Due.due("1, 1, 7", x.tried(0, 2), 9);
        x.hire(0, 2, 40, 1, false, true);
        Due.feed(x, "give 1 o");
        Due.due("hired 50", x.tried(0, 2), 9);
        Due.feed(x, "give 1 o;hired 40");
        Due.due("hired 40: no home", x.tried(0, 2), 0);
        Due.due("all is as before", x.settle(0, 0, 1, -1), 1);
        Due.due("offered as before", x.offer(0, 0), 5);
    }

    private static void triedWithTenActs() {
        ParishUnion x = new ParishUnion();
        x.person(0, -1000, 1, -1, 0);
        for (int i = 0; i < 10; i++) {
            Due.act(x, "give " + i + " o", 0);
        }
        x.frosts(2, 0, 1);
        Due.feed(x, "give 77 o");
        Due.due("an eleventh text", x.tried(2, 2), 77);
        Due.due("acts", x.count(3), 10);
        Due.due("the law is as before", x.offer(0, 0), 9);
    }

    private static void triedRefusals() {
        ParishUnion x = new ParishUnion();
        x.frosts(0, 0, 1);
        Due.feed(x, "fear 1");
        Due.due("tried none: row", x.tried(3, 0), NONE);
        Due.due("tried none: row", x.tried(-1, 0), NONE);
        Due.due("tried none: a row without frosts", x.tried(1, 0), NONE);
        Due.due("tried none: what", x.tried(0, 3), NONE);
        Due.due("tried none: what", x.tried(0, -1), NONE);
        Due.due("the tape stays", x.count(6), 6);
        Due.due("tried", x.tried(0, 0), 0);
        Due.due("the tape is empty", x.count(6), 0);
    }

    private static void beyond() {
        ParishUnion x = new ParishUnion();
        for (int i = 0; i < 14; i++) {
            x.week(20);
        }
        x.week(11);
        x.frosts(0, 0, 9);
        x.frosts(1, 0, 10);
        Due.due("now", x.count(5), 291);
        Due.due("plan beyond 300", x.plan(0), STATE);
        Due.due("none ahead of state", x.plan(2), NONE);
        Due.feed(x, "fear");
        Due.due("tried beyond 300", x.tried(1, 0), STATE);
        Due.due("none ahead of state", x.tried(1, 3), NONE);
        Due.due("the tape stays", x.count(6), 4);
        Due.due("to 300", x.tried(0, 0), -14);
        x.frosts(1, 0, 1);
        Due.due("plan to 300", x.plan(0), 0);
        Due.due("now", x.count(5), 291);
    }
}
