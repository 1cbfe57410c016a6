/** Promises 23 to 32: the house, weeks that go by, costs and their shares. */
public final class HouseTest {
    private static final int NONE = -1, BAD = -2, STATE = -3, NOBODY = -5;

    private HouseTest() {
    }

    public static void main(String[] args) {
        refusals();
        hunger();
        gifts();
        asking();
        beds();
        wards();
        news();
        newsByRoads();
        diet();
        illness();
        leaving();
        bound();
        pastWeeks();
        sharesByRents();
        sharesByHelped();
        sharesAlike();
        sinking();
        owing();
        Due.end();
    }

    private static void refusals() {
        ParishUnion x = new ParishUnion();
        Due.due("house none", x.house(5, 0), NONE);
        Due.due("house none", x.house(-1, 0), NONE);
        Due.due("house none ahead of bad", x.house(5, -1), NONE);
        Due.due("house bad", x.house(0, -1), BAD);
        Due.due("house bad", x.house(3, 21), BAD);
        Due.due("house bad", x.house(4, 10000), BAD);
        Due.due("house bad", x.house(4, -1), BAD);
        Due.due("house", x.house(3, 20), 2);
        Due.due("house", x.house(3, 0), 20);
        Due.due("house", x.house(4, 9999), 0);
        Due.due("the store", x.count(12), 9999);
        Due.due("house", x.house(4, 7), 9999);
        Due.due("price bad", x.price(-1), BAD);
        Due.due("price bad", x.price(100), BAD);
        Due.due("price", x.price(99), 1);
        Due.due("price", x.price(0), 99);
        Due.due("price", x.count(13), 0);
        Due.due("frost bad", x.frost(-1, 0), BAD);
        Due.due("frost bad", x.frost(301, 0), BAD);
        Due.due("frost bad", x.frost(0, 10), BAD);
        Due.due("frost bad", x.frost(0, -1), BAD);
        Due.due("frost", x.frost(300, 9), 0);
        Due.due("frost", x.frost(300, 8), 9);
        Due.due("frost", x.frost(0, 3), 0);
        Due.due("week bad", x.week(0), BAD);
        Due.due("week bad", x.week(21), BAD);
        Due.due("week bad", x.week(-1), BAD);
        Due.due("gone none: nothing went by", x.gone(0, 0), NONE);
        Due.due("week", x.week(1), 1);
        Due.due("frost of a week that went by", x.frost(0, 3), STATE);
        Due.due("bad ahead of state", x.frost(0, 10), BAD);
        Due.due("frost of now", x.frost(1, 3), 0);
        Due.due("heard none", x.heard(6, 0), NONE);
        Due.due("heard none ahead of bad", x.heard(-1, 301), NONE);
        Due.due("heard bad", x.heard(0, 301), BAD);
        Due.due("heard bad", x.heard(0, -1), BAD);
        Due.due("heard", x.heard(0, 300), 0);
        for (int i = 0; i < 14; i++) {
            x.week(20);
        }
        Due.due("now", x.count(5), 281);
        Due.due("beyond 300", x.week(20), BAD);
        Due.due("still", x.count(5), 281);
        Due.due("to 300", x.week(19), 300);
        Due.due("beyond 300", x.week(1), BAD);
        Due.due("frost of 300", x.frost(300, 1), 8);
        Due.due("gone none", x.gone(300, 0), NONE);
        Due.due("gone", x.gone(299, 0), 0);
        x.person(0, 300, 0, -1, 0);
        Due.due("offer in week 300", x.offer(0, 1), 0);
    }

    private static void hunger() {
        ParishUnion x = new ParishUnion();
        Due.act(x, "fear 99", 0);
        int[] strengths = {0, 3, 4, 7, 8, 9};
        for (int s : strengths) {
            x.person(0, -1000, 1, -1, s);
        }
        x.week(1);
        int[] mild = {1, 1, 0, 0, 0, 0};
        for (int i = 0; i < 6; i++) {
            Due.due("hunger without frost", x.about(i, 6), mild[i]);
        }
        x.frost(1, 5);
        x.frost(2, 6);
        x.frost(3, 9);
        x.week(1);
        int[] five = {3, 3, 1, 1, 0, 0};
        for (int i = 0; i < 6; i++) {
            Due.due("hunger by frost 5", x.about(i, 6), five[i]);
        }
        x.week(1);
        int[] six = {6, 6, 3, 3, 1, 1};
        for (int i = 0; i < 6; i++) {
            Due.due("hunger by frost 6", x.about(i, 6), six[i]);
        }
        x.week(1);
        int[] nine = {10, 10, 6, 6, 3, 3};
        for (int i = 0; i < 6; i++) {
            Due.due("hunger by frost 9", x.about(i, 6), nine[i]);
        }
        x.week(9);
        Due.due("hunger 19", x.about(0, 6), 19);
        Due.due("alive", x.about(0, 5), 1);
        x.week(1);
        Due.due("hunger 20", x.about(0, 6), 20);
        Due.due("dead", x.about(0, 5), 8);
        Due.due("two became dead", x.gone(13, 4), 2);
        Due.due("but not in the house", x.gone(13, 3), 0);
        Due.due("dead", x.count(8), 2);
        x.week(1);
        Due.due("the dead stay so", x.gone(14, 4), 0);
        Due.due("the dead don't hunger", x.about(0, 6), 20);
    }

    private static void gifts() {
        ParishUnion x = new ParishUnion();
        x.person(0, -1000, 1, -1, 0);
        x.person(1, -1000, 1, -1, 0);
        Due.act(x, "give 4 s=1;give 6 s=0&h>1;give 9 f>8;fear 99", 0);
        x.week(1);
        Due.due("given: by the first that holds", x.gone(0, 1), 4);
        Due.due("given him", x.was(0, 0, 2), 0);
        Due.due("given her", x.was(1, 0, 2), 4);
        Due.due("his hunger", x.about(0, 6), 1);
        Due.due("her hunger is 0 at least", x.about(1, 6), 0);
        x.week(1);
        Due.due("given both", x.gone(1, 1), 10);
        Due.due("his hunger 1 + 1 - 2", x.about(0, 6), 0);
        Due.due("cost of what was given", x.gone(1, 6), 10);
        Due.due("nothing eaten", x.gone(1, 0), 0);
        ParishUnion y = new ParishUnion();
        y.person(0, -1000, 1, -1, 0);
        Due.act(y, "give 0 o", 0);
        y.week(5);
        Due.due("0 is given, and hunger less", y.about(0, 6), 0);
        Due.due("0 is given", y.gone(4, 1), 0);
    }

    private static void asking() {
        ParishUnion x = new ParishUnion();
        x.person(0, -1000, 3, -1, 0);
        x.house(4, 100);
        x.week(5);
        Due.due("hunger is not above fear", x.about(0, 5), 3);
        Due.due("nobody asked", x.gone(4, 5), 0);
        x.week(1);
        Due.due("hunger 6 is above 5", x.about(0, 5), 6);
        Due.due("asked", x.gone(5, 5), 1);
        Due.due("asked", x.was(0, 5, 3), 1);
        Due.due("not asked", x.was(0, 4, 3), 0);
        Due.due("not refused", x.gone(5, 2), 0);
        Due.due("eaten", x.gone(5, 0), 10);
        Due.due("eaten by it", x.was(0, 5, 1), 10);
        Due.due("the store", x.count(12), 90);
        Due.due("hunger", x.about(0, 6), 3);
        Due.due("where from", x.about(0, 10), 3);
        Due.due("ward", x.about(0, 8), 0);
        Due.due("in the house", x.count(7), 1);
        x.week(1);
        Due.due("who is in does not ask", x.gone(6, 5), 0);
        Due.due("hunger", x.about(0, 6), 0);
        Due.due("too weak to leave", x.about(0, 5), 6);
    }

    private static void beds() {
        ParishUnion x = new ParishUnion();
        for (int i = 0; i < 4; i++) {
            x.person(0, -1000, 3, -1, 0);
        }
        x.house(0, 3);
        x.house(4, 9999);
        x.week(6);
        Due.due("all ask", x.gone(5, 5), 4);
        Due.due("one is refused", x.gone(5, 2), 1);
        Due.due("by numbers", x.about(3, 5), 3);
        Due.due("by numbers", x.about(2, 5), 6);
        x.house(0, 2);
        x.week(1);
        Due.due("more are in than there are beds", x.gone(6, 2), 1);
        Due.due("they stay", x.count(7), 3);
        x.master(0, 1);
        Due.act(x, "bind 30", 0);
        x.bind(0, 0);
        x.week(1);
        Due.due("2 of 2 beds are taken", x.gone(7, 2), 1);
        x.house(0, 3);
        x.week(1);
        Due.due("a bed is free", x.gone(8, 2), 0);
        Due.due("in", x.about(3, 5), 6);
    }

    private static void wards() {
        ParishUnion x = new ParishUnion();
        x.person(0, -1000, 1, -1, 0);
        x.person(1, -1000, 2, -1, 0);
        x.person(0, -100, 3, -1, 0);
        x.house(4, 9999);
        Due.act(x, "fear 0;ward 1 s=1;ward 2 s=0&a<14", 0);
        x.week(1);
        Due.due("no ward for him", x.about(0, 5), 1);
        Due.due("refused", x.gone(0, 2), 1);
        Due.due("her ward", x.about(1, 8), 1);
        Due.due("the child's ward", x.about(2, 8), 2);
    }

    private static void news() {
        ParishUnion x = new ParishUnion();
        x.person(0, -1000, 0, -1, 0);
        x.house(0, 0);
        Due.act(x, "fear 1", 0);
        x.week(2);
        Due.due("refused with hunger 2", x.gone(1, 2), 1);
        Due.due("heard in the week", x.heard(0, 1), 0);
        Due.due("heard a week later", x.heard(0, 2), 1);
        x.week(1);
        Due.due("hunger 3 is above 1 + 1", x.gone(2, 5), 1);
        Due.due("heard", x.heard(0, 3), 2);
        x.week(1);
        Due.due("hunger 4 is above 1 + 2", x.gone(3, 5), 1);
        x.person(0, -1000, 0, -1, 0);
        Due.act(x, "fear 4", 4);
        x.week(10);
        Due.due("hunger 14 is not above 4 + 3 + ..", x.heard(0, 14), 10);
        Due.due("hunger 8 is above 4 + 3", x.gone(7, 5), 1);
        Due.due("heard in weeks to come", x.heard(0, 300), x.heard(0, 14));
    }

    private static void newsByRoads() {
        ParishUnion x = new ParishUnion();
        x.road(0, 1, 2);
        x.road(1, 2, 9);
        x.person(0, -1000, 3, -1, 0);
        x.house(0, 0);
        Due.act(x, "fear 0", 0);
        x.week(1);
        Due.due("refused", x.gone(0, 2), 1);
        Due.due("heard at 1", x.heard(1, 2), 0);
        Due.due("heard at 1", x.heard(1, 3), 1);
        Due.due("heard at 2", x.heard(2, 11), 0);
        Due.due("heard at 2", x.heard(2, 12), 1);
        Due.due("no way leads to 3", x.heard(3, 300), 0);
        x.week(18);
        Due.due("asked each week, as it hears nothing", x.gone(18, 5), 1);
        Due.due("refused and heard", x.heard(0, 19), 19);
        x.house(0, 2);
        x.week(1);
        Due.due("died in the house without bread: 20 + 2", x.gone(19, 3), 1);
        Due.due("that is heard, too", x.heard(0, 20), 20);
        Due.due("dead", x.gone(19, 4), 1);
        Due.due("not refused", x.gone(19, 2), 0);
        Due.due("hunger", x.about(0, 6), 22);
        Due.due("no ward", x.about(0, 8), NONE);
        Due.due("no place from which it asked", x.about(0, 10), NONE);
    }

    private static void diet() {
        ParishUnion x = new ParishUnion();
        x.person(0, -1000, 1, -1, 0);
        x.person(0, -1000, 1, -1, 0);
        Due.act(x, "fear 0;diet 7", 0);
        x.house(4, 13);
        x.frost(0, 9);
        x.week(1);
        Due.due("one has eaten", x.gone(0, 0), 7);
        Due.due("hunger of the first", x.about(0, 6), 1);
        Due.due("hunger of the second", x.about(1, 6), 6);
        Due.due("the store", x.count(12), 6);
        x.price(3);
        Due.due("cost", x.gone(0, 6), 21);
        x.price(5);
        Due.due("cost by the price of now", x.gone(0, 6), 35);
        x.house(4, 14);
        x.week(1);
        Due.due("both have eaten", x.gone(1, 0), 14);
        Due.due("hunger is 0 at least", x.about(0, 6), 0);
        Due.due("hunger", x.about(1, 6), 3);
        Due.due("the store", x.count(12), 0);
        Due.act(x, "diet 0", 2);
        x.week(1);
        Due.due("nothing is eaten, and that is enough", x.about(1, 6), 0);
        Due.due("nothing is eaten", x.gone(2, 0), 0);
    }

    private static void illness() {
        ParishUnion x = new ParishUnion();
        x.person(0, -1000, 1, -1, 4);
        x.person(0, -1000, 1, -1, 5);
        x.house(4, 9999);
        Due.act(x, "fear 0", 0);
        for (int i = 0; i < 9; i++) {
            x.frost(i, i == 6 ? 4 : 5);
        }
        x.house(0, 4);
        x.week(1);
        // Hunger is 0 + 1 + 1 - 1: both ask and lie in ward 0.
        Due.due("2 of 4 beds are not more than half", x.about(0, 7), 0);
        x.house(0, 3);
        x.week(4);
        Due.due("2 of 3 beds, strength 4 below frost 5", x.about(0, 7), 4);
        Due.due("strength 5 is not below frost 5", x.about(1, 7), 0);
        x.house(0, 4);
        x.week(1);
        Due.due("1 less", x.about(0, 7), 3);
        x.house(0, 0);
        x.week(1);
        Due.due("strength 4 is not below frost 4", x.about(0, 7), 2);
        x.week(2);
        Due.due("2 of 0 beds are more than half", x.about(0, 7), 4);
        x.frost(9, 5);
        x.week(1);
        Due.due("ill 5", x.about(0, 7), 5);
        Due.due("dead", x.about(0, 5), 8);
        Due.due("it died in the house", x.gone(9, 3), 1);
        Due.due("the other one lives", x.about(1, 5), 6);
    }

    private static void leaving() {
        ParishUnion x = new ParishUnion();
        x.person(0, -1000, 2, -1, 4);
        x.person(0, -1000, 3, -1, 5);
        x.person(0, -1000, 4, -1, 8);
        x.carry(x.order(2, 5));
        x.house(4, 9999);
        x.house(0, 20);
        Due.act(x, "fear 0", 0);
        x.frost(0, 6);
        x.frost(1, 4);
        x.frost(2, 3);
        x.week(1);
        Due.due("all are in", x.count(7), 3);
        Due.due("asked from", x.about(2, 10), 5);
        x.week(1);
        Due.due("frost 4 keeps them", x.count(7), 3);
        x.week(1);
        Due.due("strength 4 stays", x.about(0, 5), 6);
        Due.due("strength 5 leaves", x.about(1, 5), 3);
        Due.due("to where it asked", x.about(2, 5), 5);
        Due.due("no ward", x.about(2, 8), NONE);
        Due.due("asked from no place", x.about(2, 10), NONE);
        x.frost(3, 9);
        x.house(4, 0);
        x.week(1);
        Due.due("in again, without bread", x.about(1, 6), 5);
        x.week(1);
        Due.due("hunger keeps", x.about(1, 5), 6);
    }

    private static void bound() {
        ParishUnion x = new ParishUnion();
        x.person(0, -100, 2, -1, 0);
        Due.act(x, "fear 99", 0);
        x.master(0, 1);
        x.week(19);
        Due.due("hunger", x.about(0, 6), 19);
        x.bind(0, 0);
        x.week(5);
        Due.due("who is bound does not hunger", x.about(0, 6), 19);
        Due.due("nor die", x.about(0, 5), 7);
        x.run(0);
        x.week(1);
        Due.due("but who ran", x.about(0, 5), 8);
    }

    private static void pastWeeks() {
        ParishUnion x = new ParishUnion();
        x.person(0, -1000, 1, -1, 0);
        x.week(2);
        x.person(0, 2, 4, -1, 0);
        x.week(1);
        Due.due("gone none", x.gone(3, 0), NONE);
        Due.due("gone none", x.gone(-1, 0), NONE);
        Due.due("gone none", x.gone(0, 7), NONE);
        Due.due("gone none", x.gone(0, -1), NONE);
        Due.due("was none", x.was(2, 0, 0), NONE);
        Due.due("was none", x.was(-1, 0, 0), NONE);
        Due.due("was none", x.was(0, 3, 0), NONE);
        Due.due("was none", x.was(0, -1, 0), NONE);
        Due.due("was none", x.was(0, 0, 4), NONE);
        Due.due("was none", x.was(0, 0, -1), NONE);
        Due.due("was", x.was(0, 0, 0), 1);
        Due.due("was", x.was(1, 2, 0), 4);
        Due.due("it was not there then", x.was(1, 1, 0), NONE);
        x.carry(x.order(0, 5));
        Due.due("was stays", x.was(0, 2, 0), 1);
        x.week(1);
        Due.due("was", x.was(0, 3, 0), 5);
    }

    /** A man of parish 1 and a woman of parish 2 in the house; 7 ounces each in week 0 and 5 given him. */
    private static ParishUnion helped(String share) {
        ParishUnion x = new ParishUnion();
        x.person(0, -1000, 1, -1, 0);
        x.person(1, -1000, 2, -1, 0);
        x.frost(0, 9);
        x.house(4, 14);
        Due.act(x, "fear 0;diet 7;give 5 s=0;" + share, 0);
        x.week(1);
        return x;
    }

    private static void sharesByRents() {
        ParishUnion x = helped("share r");
        Due.due("cost", x.gone(0, 6), 19);
        int[] even = {4, 3, 3, 3, 3, 3};
        for (int p = 0; p < 6; p++) {
            Due.due("19 by 6 alike rents", x.share(p, 0, -1), even[p]);
        }
        int[] rents = {0, 1, 2, 3, 9999, 0};
        for (int p = 0; p < 6; p++) {
            x.parish(p, rents[p]);
        }
        Due.due("nearly all", x.share(4, 0, -1), 19);
        x.parish(4, 4);
        // 19 / 10: 0, 1.9, 3.8, 5.7, 7.6, 0 -> 16 and three more, by 9, 8, 7 tenths.
        int[] due = {0, 2, 4, 6, 7, 0};
        for (int p = 0; p < 6; p++) {
            Due.due("by rents", x.share(p, 0, -1), due[p]);
        }
        for (int p = 0; p < 6; p++) {
            x.parish(p, 0);
        }
        for (int p = 0; p < 6; p++) {
            Due.due("without rents alike", x.share(p, 0, -1), even[p]);
        }
        x.price(99);
        x.parish(5, 9999);
        Due.due("14 times 99 and 5", x.share(5, 0, -1), 1391);
        Due.due("share none", x.share(6, 0, -1), NONE);
        Due.due("share none", x.share(-1, 0, -1), NONE);
        Due.due("share none", x.share(0, 1, -1), NONE);
        Due.due("share none", x.share(0, -1, -1), NONE);
        Due.due("share none", x.share(0, 0, 1), NONE);
        Due.due("share none", x.share(0, 0, -2), NONE);
    }

    private static void sharesByHelped() {
        ParishUnion x = helped("share h");
        int[] due = {0, 10, 9, 0, 0, 0};
        for (int p = 0; p < 6; p++) {
            Due.due("by the helped", x.share(p, 0, -1), due[p]);
        }
        x.hire(1, 1, 50, 0, false, false);
        Due.due("by bench 1", x.share(1, 0, -1), 19);
        Due.due("by no entry", x.share(1, 0, 0), 10);
        x.week(1);
        x.hire(0, 3, 50, 1, false, true);
        Due.due("as of that week", x.share(1, 0, -1), 19);
        Due.due("nobody was helped in week 1", x.gone(1, 6), 0);
        Due.due("no cost, no share", x.share(3, 1, -1), 0);
        Due.act(x, "share e", 0);
        Due.due("by another law", x.share(1, 0, -1), 3);
        ParishUnion z = new ParishUnion();
        z.person(0, -1000, 3, -1, 0);
        z.person(1, -1000, 4, -1, 0);
        z.person(0, -1000, 0, -1, 9);
        z.house(4, 1);
        Due.act(z, "fear 0;diet 1;give 1 s=1;share h", 0);
        z.week(1);
        // He ate 1, she was given 1; nobody helped the third one.
        Due.due("one ounce is help", z.share(3, 0, -1), 1);
        Due.due("one penny is help", z.share(4, 0, -1), 1);
        Due.due("owed for one ounce", z.owed(3, 0, 0, -1), 1);
        z.price(9);
        Due.due("owed for one ounce", z.owed(3, 0, 0, -1), 9);
        z.hire(1, 0, 50, 0, false, true);
        Due.due("parish 0", z.share(0, 0, -1), 5);
        z.parish(3, 9);
        z.parish(0, 4);
        Due.due("sink", z.sink(0, 0, -1), 0);
        z.parish(4, 4);
        Due.due("sink by no entry", z.sink(0, 0, 0), 4);
        ParishUnion y = helped("share h");
        y.proof(0, true);
        Due.due("price 0: 5 by 2", y.price(0), 1);
        Due.due("price 0: 5 by 2", y.share(1, 0, -1), 3);
        Due.due("price 0: 5 by 2", y.share(2, 0, -1), 2);
    }

    private static void sharesAlike() {
        ParishUnion x = helped("share e");
        x.parish(0, 0);
        int[] due = {4, 3, 3, 3, 3, 3};
        for (int p = 0; p < 6; p++) {
            Due.due("alike", x.share(p, 0, -1), due[p]);
        }
        x.price(3);
        int[] more = {8, 8, 8, 8, 8, 7};
        for (int p = 0; p < 6; p++) {
            Due.due("47 alike", x.share(p, 0, -1), more[p]);
        }
    }

    private static void sinking() {
        ParishUnion x = helped("share e");
        x.house(4, 14);
        x.week(2);
        // Week 0 costs 19, week 1 14, week 2 nothing.
        Due.due("cost", x.gone(1, 6), 14);
        Due.due("cost", x.gone(2, 6), 0);
        Due.due("none sinks", x.sink(0, 2, -1), NOBODY);
        x.parish(4, 4);
        Due.due("3 and 2 are above 4", x.sink(0, 1, -1), 4);
        Due.due("3 is not", x.sink(0, 0, -1), NOBODY);
        Due.due("2 is not", x.sink(1, 2, -1), NOBODY);
        x.parish(4, 5);
        Due.due("5 is not above 5", x.sink(0, 2, -1), NOBODY);
        x.parish(5, 0);
        x.parish(3, 0);
        Due.due("the least", x.sink(0, 2, -1), 3);
        Due.due("nothing is not above 0", x.sink(2, 2, -1), NOBODY);
        Due.due("sink none", x.sink(0, 3, -1), NONE);
        Due.due("sink none", x.sink(-1, 1, -1), NONE);
        Due.due("sink none", x.sink(0, 1, 1), NONE);
        Due.due("sink none ahead of bad", x.sink(3, 1, -1), NONE);
        Due.due("sink bad", x.sink(1, 0, -1), BAD);
    }

    private static void owing() {
        ParishUnion x = helped("share e");
        x.house(4, 14);
        x.week(2);
        Due.due("owed", x.owed(1, 0, 2, -1), 14);
        Due.due("owed", x.owed(2, 0, 0, -1), 7);
        Due.due("owed", x.owed(0, 0, 2, -1), 0);
        x.price(10);
        Due.due("owed by the price of now", x.owed(2, 0, 1, -1), 140);
        x.hire(1, 1, 50, 1, false, false);
        Due.due("owed as of each week", x.owed(2, 0, 1, -1), 70);
        Due.due("owed as of each week", x.owed(1, 0, 1, -1), 210);
        Due.due("owed by no entry", x.owed(1, 0, 1, 0), 140);
        Due.due("owed none", x.owed(6, 0, 0, -1), NONE);
        Due.due("owed none", x.owed(0, 3, 0, -1), NONE);
        Due.due("owed none", x.owed(0, 0, 3, -1), NONE);
        Due.due("owed none", x.owed(0, 0, 0, 2), NONE);
        Due.due("owed none ahead of bad", x.owed(6, 1, 0, -1), NONE);
        Due.due("owed bad", x.owed(0, 1, 0, -1), BAD);
    }
}
