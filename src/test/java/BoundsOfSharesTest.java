/** The bounds that part 6 of the "Terms" names of costs: shares, who sinks, what is owed. */
public final class BoundsOfSharesTest {
    private static final int NONE = -1, BAD = -2, NOBODY = -5;

    private BoundsOfSharesTest() {
    }

    public static void main(String[] args) {
        costsByThePriceOfNow();
        remaindersByRents();
        alikeRemainders();
        weightsOfNothing();
        greatestRents();
        alike();
        byHelped();
        oneOunceIsHelp();
        helpedInTheHouseAndAtHome();
        sixteenHelped();
        whoCameLater();
        asOfTheWeek();
        lawOfTheWeek();
        theWholeIsShared();
        aboveItsRents();
        leastParishThatSinks();
        spansThatSink();
        everyWeekSinks();
        owedByWeeks();
        owedByThePriceOfNow();
        Due.end();
    }

    /** One man of PARISH 0, who is given so much in WEEK 0. */
    private static ParishUnion costing(int cost, String share) {
        ParishUnion x = new ParishUnion();
        x.person(0, -1000, 0, -1, 0);
        Due.act(x, "give " + cost + " o;" + share, 0);
        x.week(1);
        return x;
    }

    private static void rents(ParishUnion x, int... rents) {
        for (int p = 0; p < 6; p++) {
            x.parish(p, rents[p]);
        }
    }

    private static void shares(String what, ParishUnion x, int... due) {
        for (int p = 0; p < 6; p++) {
            Due.due(what + ": share of " + p, x.share(p, 0, -1), due[p]);
        }
    }

    private static void costsByThePriceOfNow() {
        ParishUnion x = new ParishUnion();
        x.person(0, -1000, 0, -1, 0);
        x.house(4, 9999);
        x.price(3);
        Due.act(x, "fear 0;diet 7;give 5 h>0", 0);
        x.frost(0, 9);
        x.week(1);
        Due.due("eaten", x.gone(0, 0), 7);
        Due.due("given", x.gone(0, 1), 5);
        Due.due("7 times 3 and 5", x.gone(0, 6), 26);
        x.price(0);
        Due.due("5", x.gone(0, 6), 5);
        x.price(99);
        Due.due("7 times 99 and 5", x.gone(0, 6), 698);
        int all = 0;
        for (int p = 0; p < 6; p++) {
            all += x.share(p, 0, -1);
        }
        Due.due("all shares", all, 698);
    }

    private static void remaindersByRents() {
        ParishUnion x = costing(10, "share r");
        rents(x, 1, 2, 3, 0, 0, 0);
        // 1.67, 3.33, 5
        shares("10 by 6", x, 2, 3, 5, 0, 0, 0);
        rents(x, 1, 1, 1, 1, 1, 2);
        // 1.43 five times, 2.86
        shares("10 by 7", x, 2, 2, 1, 1, 1, 3);
        rents(x, 0, 0, 0, 0, 3, 4);
        // 4.29, 5.71
        shares("10 by 7", x, 0, 0, 0, 0, 4, 6);
        rents(x, 0, 0, 0, 0, 1, 1);
        shares("5 and 5", x, 0, 0, 0, 0, 5, 5);
        rents(x, 1, 2, 4, 8, 16, 32);
        // 0.16, 0.32, 0.63, 1.27, 2.54, 5.08
        shares("10 by 63", x, 0, 0, 1, 1, 3, 5);
        rents(x, 32, 16, 8, 4, 2, 1);
        shares("10 by 63, the other way about", x, 5, 3, 1, 1, 0, 0);
        rents(x, 10, 0, 0, 0, 0, 0);
        shares("one alone", x, 10, 0, 0, 0, 0, 0);
        rents(x, 0, 0, 0, 0, 0, 1);
        shares("one alone", x, 0, 0, 0, 0, 0, 10);
    }

    /** Of like remainders the least PARISHES get one more, and only till it is whole. */
    private static void alikeRemainders() {
        for (int cost = 0; cost <= 13; cost++) {
            ParishUnion x = costing(cost, "share r");
            for (int p = 0; p < 6; p++) {
                Due.due(cost + " alike, parish " + p, x.share(p, 0, -1), cost / 6 + (p < cost % 6 ? 1 : 0));
            }
            rents(x, 0, 5, 0, 5, 0, 5);
            for (int p = 0; p < 6; p++) {
                int due = p % 2 == 0 ? 0 : cost / 3 + (p / 2 < cost % 3 ? 1 : 0);
                Due.due(cost + " by three alike, parish " + p, x.share(p, 0, -1), due);
            }
        }
    }

    private static void weightsOfNothing() {
        ParishUnion x = costing(8, "share r");
        rents(x, 0, 0, 0, 0, 0, 0);
        shares("no rents: alike", x, 2, 2, 1, 1, 1, 1);
        rents(x, 0, 0, 0, 0, 0, 1);
        shares("one penny of rents", x, 0, 0, 0, 0, 0, 8);
        rents(x, 0, 1, 0, 0, 0, 0);
        shares("one penny of rents", x, 0, 8, 0, 0, 0, 0);
        ParishUnion y = costing(0, "share h");
        shares("no cost", y, 0, 0, 0, 0, 0, 0);
        ParishUnion z = new ParishUnion();
        z.week(1);
        shares("nobody is there", z, 0, 0, 0, 0, 0, 0);
    }

    private static void greatestRents() {
        ParishUnion x = new ParishUnion();
        x.person(0, -1000, 0, -1, 0);
        x.house(4, 9999);
        x.price(99);
        Due.act(x, "fear 0;diet 9999", 0);
        x.frost(0, 9);
        x.week(1);
        rents(x, 9999, 9999, 9999, 9999, 9999, 9999);
        Due.due("cost", x.gone(0, 6), 989901);
        // 164983.5: three get one more.
        shares("the greatest numbers", x, 164984, 164984, 164984, 164983, 164983, 164983);
        rents(x, 9999, 1, 0, 0, 0, 0);
        // 989802.0099.., 98.9901..
        shares("nearly all", x, 989802, 99, 0, 0, 0, 0);
        Due.due("it sinks", x.sink(0, 0, -1), 0);
        Due.due("owed", x.owed(0, 0, 0, -1), 989901);
    }

    private static void alike() {
        for (int cost = 0; cost <= 13; cost++) {
            ParishUnion x = costing(cost, "share e");
            rents(x, 0, 9999, 1, 2, 0, 7);
            for (int p = 0; p < 6; p++) {
                Due.due(cost + " alike, parish " + p, x.share(p, 0, -1), cost / 6 + (p < cost % 6 ? 1 : 0));
            }
        }
    }

    /** Three of PARISH 2, two of PARISH 4, one of PARISH 5 are helped, another one of it is not. */
    private static ParishUnion sixHelped(int gift) {
        ParishUnion x = new ParishUnion();
        int[] homes = {2, 2, 2, 4, 4, 5, 5};
        for (int i = 0; i < homes.length; i++) {
            x.person(i == 6 ? 1 : 0, -1000, homes[i], -1, 9);
        }
        Due.act(x, "give " + gift + " s=0;share h", 0);
        x.week(1);
        return x;
    }

    private static void byHelped() {
        ParishUnion x = sixHelped(10);
        Due.due("cost", x.gone(0, 6), 60);
        shares("60 by 3, 2, 1", x, 0, 0, 30, 0, 20, 10);
        rents(x, 9999, 0, 0, 0, 0, 0);
        shares("rents are nothing", x, 0, 0, 30, 0, 20, 10);
        x.hire(0, 0, 50, 0, false, false);
        shares("one is another's by bench 1", x, 10, 0, 20, 0, 20, 10);
        x.hire(0, 1, 50, 0, false, true);
        shares("one is another's", x, 0, 10, 20, 0, 20, 10);
        for (int p = 0; p < 6; p++) {
            int[] due = {0, 0, 30, 0, 20, 10};
            Due.due("by no entry", x.share(p, 0, 0), due[p]);
            int[] one = {10, 0, 20, 0, 20, 10};
            Due.due("by the first entry", x.share(p, 0, 1), one[p]);
            Due.due("by 3 of 2", x.share(p, 0, 3), NONE);
            Due.due("by -2", x.share(p, 0, -2), NONE);
        }
        ParishUnion y = sixHelped(0);
        shares("0 is no help, and costs nothing", y, 0, 0, 0, 0, 0, 0);
    }

    private static void oneOunceIsHelp() {
        ParishUnion x = new ParishUnion();
        x.person(0, -1000, 1, -1, 0);
        x.person(1, -1000, 3, -1, 0);
        x.person(1, -1000, 5, -1, 9);
        x.house(4, 1);
        x.price(7);
        Due.act(x, "fear 0;diet 1;ward 0 s=0;give 1 p=3;share h", 0);
        x.frost(0, 9);
        x.week(1);
        Due.due("one ounce", x.was(0, 0, 1), 1);
        Due.due("one penny", x.was(1, 0, 2), 1);
        shares("7 and 1 by two", x, 0, 4, 0, 4, 0, 0);
    }

    /** Who is GIVEN something and has EATEN, too, is helped once. */
    private static void helpedInTheHouseAndAtHome() {
        ParishUnion x = new ParishUnion();
        x.person(0, -1000, 1, -1, 0);
        x.person(1, -1000, 3, -1, 0);
        x.house(4, 9);
        Due.act(x, "fear 0;diet 9;ward 0 s=0;give 3 s=0;give 6 s=1;share h", 0);
        x.frost(0, 9);
        x.week(1);
        Due.due("he has eaten", x.was(0, 0, 1), 9);
        Due.due("he was given", x.was(0, 0, 2), 3);
        Due.due("she was given", x.was(1, 0, 2), 6);
        shares("18 by two", x, 0, 9, 0, 9, 0, 0);
    }

    /** All places of PERSONS are taken, and the first one is helped in the next WEEK, too. */
    private static void sixteenHelped() {
        ParishUnion x = new ParishUnion();
        for (int i = 0; i < 16; i++) {
            x.person(0, -1000, i % 6, -1, 0);
        }
        x.house(0, 20);
        x.house(4, 9999);
        x.price(2);
        Due.act(x, "fear 0;diet 10;share h", 0);
        Due.act(x, "give 1 o", 1);
        x.week(2);
        for (int week = 0; week < 2; week++) {
            Due.due("all have eaten", x.gone(week, 0), 160);
            Due.due("cost", x.gone(week, 6), 320);
            int[] due = {60, 60, 60, 60, 40, 40};
            for (int p = 0; p < 6; p++) {
                Due.due("share of " + p, x.share(p, week, -1), due[p]);
                Due.due("owed by " + p, x.owed(p, week, week, -1), due[p]);
                Due.due("owed by " + p, x.owed(p, 0, 1, -1), 2 * due[p]);
            }
        }
        x.parish(4, 80);
        x.parish(5, 79);
        for (int p = 0; p < 4; p++) {
            x.parish(p, 120);
        }
        Due.due("sinks", x.sink(0, 1, -1), 5);
    }

    /** Who was not there yet in a WEEK was not helped in it. */
    private static void whoCameLater() {
        ParishUnion x = new ParishUnion();
        x.person(0, -1000, 1, -1, 0);
        x.house(4, 100);
        x.price(2);
        Due.act(x, "fear 0;diet 7;share h", 0);
        x.week(1);
        x.person(0, -1000, 2, -1, 0);
        x.person(0, -1000, 2, -1, 0);
        shares("one was there", x, 0, 14, 0, 0, 0, 0);
        Due.due("owed by his", x.owed(1, 0, 0, -1), 14);
        Due.due("not owed by theirs", x.owed(2, 0, 0, -1), 0);
        x.week(1);
        Due.due("three were there", x.gone(1, 0), 14);
        Due.due("owed by theirs", x.owed(2, 0, 1, -1), 14);
    }

    private static void asOfTheWeek() {
        ParishUnion x = new ParishUnion();
        x.person(0, -1000, 2, -1, 0);
        Due.act(x, "give 5 p=2;share h", 0);
        x.week(3);
        x.hire(0, 4, 50, 1, false, true);
        int[] due = {2, 4, 4};
        for (int week = 0; week < 3; week++) {
            for (int p = 0; p < 6; p++) {
                Due.due("share of " + p + " in " + week, x.share(p, week, -1), p == due[week] ? 5 : 0);
                Due.due("by no entry", x.share(p, week, 0), p == 2 ? 5 : 0);
            }
        }
        // A woman whose man was not BORN yet is nobody's: without weights alike.
        ParishUnion y = new ParishUnion();
        y.person(1, -1000, 2, -1, 0);
        y.person(0, 0, 3, -1, 9);
        y.wed(0, 1, -1, true);
        Due.act(y, "give 7 s=1;share h", 0);
        y.week(1);
        shares("nobody's", y, 2, 1, 1, 1, 1, 1);
    }

    private static void lawOfTheWeek() {
        ParishUnion x = new ParishUnion();
        x.person(0, -1000, 5, -1, 0);
        Due.act(x, "give 6 o", 0);
        Due.act(x, "share e", 1);
        Due.act(x, "share h", 2);
        x.week(3);
        rents(x, 0, 1, 0, 0, 0, 0);
        int[][] due = {{0, 6, 0, 0, 0, 0}, {1, 1, 1, 1, 1, 1}, {0, 0, 0, 0, 0, 6}};
        for (int week = 0; week < 3; week++) {
            for (int p = 0; p < 6; p++) {
                Due.due("share of " + p + " in " + week, x.share(p, week, -1), due[week][p]);
            }
        }
        Due.act(x, "share r", 2);
        Due.due("told later of a week that went by", x.share(1, 2, -1), 6);
        Due.due("the one ahead stays", x.share(1, 1, -1), 1);
    }

    private static void theWholeIsShared() {
        int[] costs = {1, 5, 7, 11, 97, 9999};
        int[][] all = {{1, 2, 3, 4, 5, 6}, {9999, 1, 1, 1, 1, 1}, {0, 0, 7, 0, 0, 11}, {13, 13, 13, 13, 13, 12},
            {9999, 9998, 9997, 9996, 9995, 9994}};
        for (int cost : costs) {
            ParishUnion x = costing(cost, "share r");
            for (int[] r : all) {
                rents(x, r);
                int sum = 0;
                long weights = 0;
                for (int n : r) {
                    weights += n;
                }
                for (int p = 0; p < 6; p++) {
                    int share = x.share(p, 0, -1);
                    sum += share;
                    long cut = (long) cost * r[p] / weights;
                    Due.due("cut, or one more", share == cut || share == cut + 1 ? 1 : 0, 1);
                }
                Due.due("all shares of " + cost, sum, cost);
            }
        }
    }

    // ---- who sinks

    private static void aboveItsRents() {
        ParishUnion x = costing(60, "share e");
        for (int p = 0; p < 6; p++) {
            rents(x, 9999, 9999, 9999, 9999, 9999, 9999);
            x.parish(p, 11);
            Due.due("10 of 11", x.sink(0, 0, -1), NOBODY);
            x.parish(p, 10);
            Due.due("10 of 10", x.sink(0, 0, -1), NOBODY);
            x.parish(p, 9);
            Due.due("10 of 9", x.sink(0, 0, -1), p);
            x.parish(p, 0);
            Due.due("10 of 0", x.sink(0, 0, -1), p);
        }
        ParishUnion y = costing(0, "share e");
        rents(y, 0, 0, 0, 0, 0, 0);
        Due.due("0 of 0", y.sink(0, 0, -1), NOBODY);
    }

    private static void leastParishThatSinks() {
        ParishUnion x = costing(9000, "share e");
        rents(x, 0, 0, 0, 0, 0, 0);
        for (int p = 0; p < 6; p++) {
            Due.due("the least", x.sink(0, 0, -1), p);
            x.parish(p, 1500);
        }
        Due.due("none", x.sink(0, 0, -1), NOBODY);
    }

    private static void spansThatSink() {
        ParishUnion x = new ParishUnion();
        x.person(0, -1000, 0, -1, 0);
        Due.act(x, "give 6 o;share e", 1);
        Due.act(x, "give 12 o", 3);
        Due.act(x, "give 0 o", 4);
        x.week(5);
        // By WEEKS 0, 1, 1, 2, 0 each.
        int[] due = {0, 1, 1, 2, 0};
        for (int from = 0; from < 5; from++) {
            for (int to = from; to < 5; to++) {
                int sum = 0;
                for (int week = from; week <= to; week++) {
                    sum += due[week];
                }
                x.parish(3, sum);
                Due.due("not above, " + from + " to " + to, x.sink(from, to, -1), NOBODY);
                if (sum > 0) {
                    x.parish(3, sum - 1);
                    Due.due("above, " + from + " to " + to, x.sink(from, to, -1), 3);
                }
            }
        }
        Due.due("the first is behind the last", x.sink(1, 0, -1), BAD);
        Due.due("the first is behind the last", x.sink(4, 3, -1), BAD);
        Due.due("one week", x.sink(4, 4, -1), NOBODY);
        Due.due("week 5 did not go by", x.sink(4, 5, -1), NONE);
        Due.due("week 5 did not go by", x.sink(5, 5, -1), NONE);
        Due.due("none ahead of bad", x.sink(5, 4, -1), NONE);
        Due.due("no week -1", x.sink(-1, 4, -1), NONE);
        Due.due("no week -1", x.sink(0, -1, -1), NONE);
        Due.due("by 1 of 0", x.sink(0, 4, 1), NONE);
        Due.due("by -2", x.sink(0, 4, -2), NONE);
        Due.due("none ahead of bad", x.sink(4, 3, 1), NONE);
    }

    private static void everyWeekSinks() {
        ParishUnion x = new ParishUnion();
        x.person(0, -1000, 4, -1, 0);
        Due.act(x, "give 20 o;share h", 0);
        for (int i = 0; i < 15; i++) {
            x.week(20);
        }
        x.parish(4, 6000);
        Due.due("300 weeks of 20", x.sink(0, 299, -1), NOBODY);
        x.parish(4, 5999);
        Due.due("300 weeks of 20", x.sink(0, 299, -1), 4);
        Due.due("299 weeks of 20", x.sink(1, 299, -1), NOBODY);
        Due.due("299 weeks of 20", x.sink(0, 298, -1), NOBODY);
    }

    // ---- what is owed

    private static ParishUnion eating() {
        ParishUnion x = new ParishUnion();
        x.person(0, -1000, 1, -1, 0);
        x.person(1, -1000, 2, -1, 0);
        x.house(4, 9999);
        Due.act(x, "fear 0;diet 3;give 8 h<0", 0);
        x.week(3);
        return x;
    }

    private static void owedByWeeks() {
        ParishUnion x = eating();
        for (int from = 0; from < 3; from++) {
            for (int to = from; to < 3; to++) {
                Due.due("owed " + from + " to " + to, x.owed(1, from, to, -1), 3 * (to - from + 1));
                Due.due("owed " + from + " to " + to, x.owed(2, from, to, -1), 3 * (to - from + 1));
                Due.due("owed " + from + " to " + to, x.owed(0, from, to, -1), 0);
            }
        }
        x.hire(1, 5, 50, 1, false, false);
        x.hire(0, 2, 50, 2, false, true);
        Due.due("hers as of week 0", x.owed(2, 0, 1, -1), 3);
        Due.due("his as of week 2", x.owed(2, 0, 2, -1), 6);
        Due.due("his as of weeks 0 and 1", x.owed(1, 0, 2, -1), 6);
        Due.due("hers as of weeks 1 and 2, by bench 1", x.owed(5, 0, 2, -1), 6);
        Due.due("by no entry", x.owed(5, 0, 2, 0), 0);
        Due.due("by the first entry", x.owed(2, 0, 2, 1), 3);
        Due.due("by both entries", x.owed(2, 0, 2, 2), 6);
        Due.due("by 3 of 2", x.owed(2, 0, 2, 3), NONE);
        Due.due("by -2", x.owed(2, 0, 2, -2), NONE);
        Due.due("the first is behind the last", x.owed(2, 2, 1, -1), BAD);
        Due.due("week 3 did not go by", x.owed(2, 2, 3, -1), NONE);
        Due.due("none ahead of bad", x.owed(2, 3, 2, -1), NONE);
        Due.due("none ahead of bad", x.owed(6, 2, 1, -1), NONE);
        Due.due("no week -1", x.owed(2, -1, 1, -1), NONE);
        Due.due("no parish -1", x.owed(-1, 0, 1, -1), NONE);
    }

    private static void owedByThePriceOfNow() {
        ParishUnion x = eating();
        x.price(99);
        Due.due("at 99", x.owed(1, 0, 2, -1), 891);
        x.price(0);
        Due.due("at 0", x.owed(1, 0, 2, -1), 0);
        // What was GIVEN is not owed.
        ParishUnion y = costing(50, "share h");
        Due.due("given", y.gone(0, 6), 50);
        Due.due("not owed", y.owed(0, 0, 0, -1), 0);
        // The store is full again in each of 300 WEEKS.
        ParishUnion z = new ParishUnion();
        z.person(0, -1000, 1, -1, 0);
        z.price(99);
        Due.act(z, "fear 0;diet 9999", 0);
        z.frost(0, 9);
        for (int i = 0; i < 200; i++) {
            z.house(4, 9999);
            z.week(1);
        }
        Due.due("200 weeks of 9999 ounces", z.owed(1, 0, 199, -1), 200 * 9999 * 99);
        Due.due("cost", z.gone(199, 6), 989901);
        Due.due("shares", z.share(0, 199, -1), 164984);
        Due.due("sinks", z.sink(0, 199, -1), 0);
    }
}
