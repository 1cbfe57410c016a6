/** The bounds that part 6 of the "Terms" names: the house, what is heard of it, a week that goes by, costs and shares. */
public final class BoundsOfHouseTest {
    private static final int NONE = -1, BAD = -2, STATE = -3, NOBODY = -5;
    private static final int AT_HOUSE = 6, BOUND = 7, DEAD = 8;

    private BoundsOfHouseTest() {
    }

    public static void main(String[] args) {
        numbersOfTheHouse();
        frostsThatAreTold();
        heardByWeeks();
        heardAtTheEndOfTheLongestWay();
        heardWithoutWay();
        refusedAndDiedAreHeard();
        hungerByFrostAndStrength();
        hungerIsZeroAtLeast();
        giftsMakeHungerTwoLess();
        theFirstGiftAlone();
        giftsByTheHungerOfThen();
        aboveFear();
        aboveFearAndWhatIsHeard();
        greatestFear();
        wardsOfClauses();
        theLastBedFree();
        bedsByNumbers();
        theStoreHasTheDiet();
        dietOfNothing();
        greatestDiet();
        hungerInTheHouse();
        moreThanHalfOfTheBeds();
        bedsOfItsWardAlone();
        strengthBelowFrost();
        illAtLeastAndAtMost();
        hungerTwenty();
        greatestHunger();
        boundOnesStay();
        backToTheParish();
        leftBedsAreFree();
        weeksAtATime();
        sumsOfAWeek();
        Due.end();
    }

    /** Whose hunger grows by 1 a week, as it has no strength. */
    private static int weak(ParishUnion x, int parish) {
        return x.person(0, -1000, parish, -1, 0);
    }

    private static void isAt(String what, ParishUnion x, int person, int at) {
        Due.due(what, x.about(person, 5), at);
    }

    private static void hungers(String what, ParishUnion x, int person, int hunger) {
        Due.due(what, x.about(person, 6), hunger);
    }

    // ---- what is told of the house

    private static void numbersOfTheHouse() {
        ParishUnion x = new ParishUnion();
        int[] most = {20, 20, 20, 20, 9999};
        for (int k = 0; k < 5; k++) {
            Due.due("at first", x.house(k, most[k]), k < 4 ? 2 : 0);
            Due.due("too much", x.house(k, most[k] + 1), BAD);
            Due.due("it stays", x.house(k, 0), most[k]);
            Due.due("too little", x.house(k, -1), BAD);
            Due.due("it stays", x.house(k, 1), 0);
            Due.due("its own", x.house(k, 7 + k), 1);
        }
        for (int k = 0; k < 5; k++) {
            Due.due("its own", x.house(k, 0), 7 + k);
        }
        Due.due("no ward 5", x.house(5, 0), NONE);
        Due.due("no ward -1", x.house(-1, 0), NONE);
        Due.due("price at first", x.price(99), 1);
        Due.due("too much", x.price(100), BAD);
        Due.due("it stays", x.price(0), 99);
        Due.due("too little", x.price(-1), BAD);
        Due.due("it stays", x.price(5), 0);
    }

    private static void frostsThatAreTold() {
        ParishUnion x = new ParishUnion();
        x.week(3);
        Due.due("week 2 went by", x.frost(2, 1), STATE);
        Due.due("week 0 went by", x.frost(0, 0), STATE);
        Due.due("no week -1", x.frost(-1, 1), BAD);
        Due.due("bad ahead of state", x.frost(2, 10), BAD);
        Due.due("bad ahead of state", x.frost(2, -1), BAD);
        Due.due("week 3 is NOW", x.frost(3, 9), 0);
        Due.due("another one", x.frost(3, 0), 9);
        Due.due("frost 10", x.frost(3, 10), BAD);
        Due.due("frost -1", x.frost(3, -1), BAD);
        Due.due("it stays", x.frost(3, 4), 0);
        Due.due("week 4", x.frost(4, 1), 0);
        Due.due("week 300", x.frost(300, 9), 0);
        Due.due("week 301", x.frost(301, 9), BAD);
        Due.due("week 300", x.frost(300, 0), 9);
        Due.due("week 299", x.frost(299, 0), 0);
    }

    // ---- what is heard

    /** One is refused in each WEEK from 0 on, in a PARISH to which no way leads. */
    private static ParishUnion refusing(int weeks) {
        ParishUnion x = new ParishUnion();
        weak(x, 5);
        for (int ward = 0; ward < 4; ward++) {
            x.house(ward, 0);
        }
        Due.act(x, "fear 0", 0);
        x.week(weeks);
        return x;
    }

    private static void heardByWeeks() {
        ParishUnion x = refusing(10);
        x.road(0, 1, 1);
        x.road(1, 2, 3);
        int[] far = {0, 1, 4};
        for (int p = 0; p < 3; p++) {
            for (int week = 0; week <= 20; week++) {
                int due = Math.max(0, Math.min(10, week - far[p]));
                Due.due("heard in " + p + " in week " + week, x.heard(p, week), due);
            }
            Due.due("heard in " + p + " in week 300", x.heard(p, 300), 10);
        }
        ParishUnion y = new ParishUnion();
        Due.due("nothing went by", y.heard(0, 0), 0);
        Due.due("nothing went by", y.heard(0, 300), 0);
        Due.due("week 301", y.heard(0, 301), BAD);
        Due.due("week -1", y.heard(0, -1), BAD);
        Due.due("no parish 6", y.heard(6, 0), NONE);
    }

    private static void heardAtTheEndOfTheLongestWay() {
        ParishUnion x = new ParishUnion();
        for (int p = 0; p < 5; p++) {
            x.road(p, p + 1, 9);
        }
        weak(x, 5);
        x.house(0, 0);
        Due.act(x, "fear 0", 0);
        x.week(1);
        Due.due("refused", x.gone(0, 2), 1);
        Due.due("45 weeks later", x.heard(5, 45), 0);
        Due.due("46 weeks later", x.heard(5, 46), 1);
        Due.due("37 weeks later", x.heard(4, 36), 0);
        Due.due("37 weeks later", x.heard(4, 37), 1);
    }

    private static void heardWithoutWay() {
        ParishUnion x = refusing(3);
        for (int p = 1; p < 6; p++) {
            Due.due("no way leads there", x.heard(p, 300), 0);
            Due.due("no way leads there", x.heard(p, 100), 0);
        }
        Due.due("it is heard at once in the parish of the house", x.heard(0, 3), 3);
        x.road(0, 3, 9);
        Due.due("a way leads there now", x.heard(3, 300), 3);
    }

    private static void refusedAndDiedAreHeard() {
        ParishUnion x = new ParishUnion();
        weak(x, 5);
        weak(x, 5);
        weak(x, 4);
        x.house(0, 1);
        Due.act(x, "fear 15;ward 0 p=5;ward 3 h<0", 0);
        // In WEEK 15 (hunger 16) one goes in, one is REFUSED, the third one, too.
        x.week(17);
        Due.due("refused", x.gone(15, 2), 2);
        Due.due("heard of the refused", x.heard(0, 16), 2);
        // In the house hunger is 18 and then 20: it DIED in WEEK 16; both others are REFUSED.
        Due.due("died", x.gone(16, 3), 1);
        Due.due("heard of both", x.heard(0, 17), 2 + 2 + 1);
        x.week(3);
        // WEEK 17: the second one goes in and DIED: 18 and 2; WEEKS 17, 18 REFUSED: the third; 19: DEAD elsewhere.
        Due.due("died", x.gone(17, 3), 1);
        Due.due("refused", x.gone(17, 2), 1);
        Due.due("heard", x.heard(0, 18), 5 + 2);
        Due.due("dead elsewhere", x.gone(19, 4), 1);
        Due.due("it did not die in the house", x.gone(19, 3), 0);
        Due.due("refused, too", x.gone(19, 2), 1);
        Due.due("heard of the refused alone", x.heard(0, 20), 5 + 2 + 1 + 1);
    }

    // ---- step 1: hunger and gifts

    private static void hungerByFrostAndStrength() {
        for (int frost = 0; frost <= 9; frost++) {
            ParishUnion x = new ParishUnion();
            for (int strength = 0; strength <= 9; strength++) {
                x.person(0, -1000, 1, -1, strength);
            }
            Due.act(x, "fear 99", 0);
            x.frost(0, frost);
            x.frost(1, frost);
            int[] byFrost = {0, 0, 0, 1, 1, 1, 2, 2, 2, 3};
            int[] byStrength = {0, 0, 0, 0, 1, 1, 1, 1, 2, 2};
            for (int week = 1; week <= 2; week++) {
                x.week(1);
                for (int s = 0; s <= 9; s++) {
                    int due = Math.max(0, week * (1 + byFrost[frost] - byStrength[s]));
                    hungers("frost " + frost + ", strength " + s, x, s, due);
                }
            }
        }
    }

    private static void hungerIsZeroAtLeast() {
        ParishUnion x = new ParishUnion();
        x.person(0, -1000, 1, -1, 9);
        Due.act(x, "fear 99", 0);
        x.frost(0, 6);
        x.week(1);
        hungers("1 + 2 - 2", x, 0, 1);
        x.week(1);
        hungers("1 + 1 - 2", x, 0, 0);
        x.week(1);
        hungers("0 + 1 - 2: 0 at least", x, 0, 0);
    }

    private static void giftsMakeHungerTwoLess() {
        for (int hunger = 1; hunger <= 5; hunger++) {
            ParishUnion x = new ParishUnion();
            weak(x, 1);
            Due.act(x, "fear 99", 0);
            Due.act(x, "give 1 o", hunger - 1);
            x.week(hunger);
            hungers("2 less than " + hunger, x, 0, Math.max(0, hunger - 2));
            Due.due("given once", x.gone(hunger - 1, 1), 1);
        }
        ParishUnion x = new ParishUnion();
        weak(x, 1);
        Due.act(x, "give 0 o;fear 99", 0);
        x.week(2);
        hungers("nothing is given, and hunger is 2 less", x, 0, 0);
        Due.due("nothing is given", x.was(0, 1, 2), 0);
        ParishUnion y = new ParishUnion();
        weak(y, 1);
        Due.act(y, "give 9999 o;fear 99", 0);
        y.week(1);
        Due.due("as much as can be", y.was(0, 0, 2), 9999);
        Due.due("as much as can be", y.gone(0, 1), 9999);
        Due.due("as much as can be", y.gone(0, 6), 9999);
    }

    private static void theFirstGiftAlone() {
        ParishUnion x = new ParishUnion();
        weak(x, 1);
        Due.act(x, "give 1 s=1;give 2 s=0;give 4 o;fear 99", 0);
        x.week(4);
        for (int week = 0; week < 4; week++) {
            Due.due("one gift a week", x.was(0, week, 2), 2);
        }
        hungers("2 less a week, not 4", x, 0, 0);
    }

    /** A gift is given by the HUNGER that has grown already, ahead of its being 2 less. */
    private static void giftsByTheHungerOfThen() {
        ParishUnion x = new ParishUnion();
        weak(x, 1);
        Due.act(x, "give 3 h>2;fear 99", 0);
        x.week(5);
        int[] given = {0, 0, 3, 0, 3};
        for (int week = 0; week < 5; week++) {
            Due.due("given in week " + week, x.was(0, week, 2), given[week]);
        }
        hungers("1 2 1 2 1", x, 0, 1);
    }

    // ---- step 2: who asks

    private static void aboveFear() {
        int[] fears = {0, 1, 5, 10, 18};
        for (int fear : fears) {
            ParishUnion x = new ParishUnion();
            weak(x, 1);
            x.house(4, 9999);
            Due.act(x, "fear " + fear, 0);
            x.week(fear + 1);
            for (int week = 0; week < fear; week++) {
                Due.due("hunger " + (week + 1) + " is not above " + fear, x.was(0, week, 3), 0);
                Due.due("it is there", x.was(0, week, 0), 1);
            }
            Due.due("hunger " + (fear + 1) + " is", x.was(0, fear, 3), 1);
            Due.due("it is in the house", x.was(0, fear, 0), AT_HOUSE);
            Due.due("one asked", x.gone(fear, 5), 1);
            Due.due("none is refused", x.gone(fear, 2), 0);
        }
        ParishUnion x = new ParishUnion();
        x.person(0, -1000, 1, -1, 9);
        Due.act(x, "fear 0", 0);
        x.week(1);
        Due.due("hunger 0 is not above 0", x.gone(0, 5), 0);
    }

    private static void aboveFearAndWhatIsHeard() {
        for (int heard = 0; heard <= 4; heard++) {
            ParishUnion x = new ParishUnion();
            weak(x, 5);
            x.house(0, 0);
            Due.act(x, "fear 0", 0);
            Due.act(x, "fear 9999", heard);
            if (heard > 0) {
                x.week(heard);
            }
            weak(x, 0);
            x.week(6);
            Due.due("refused, one a week", x.heard(0, x.count(5)), heard);
            hungers("six weeks", x, 1, 6);
            x.image();
            // Its hunger is 7 in the WEEK that comes.
            Due.act(x, "fear " + (7 - heard), heard + 6);
            x.week(1);
            Due.due("not above fear and " + heard, x.was(1, heard + 6, 3), 0);
            x.undo();
            Due.act(x, "fear " + (6 - heard), heard + 6);
            x.week(1);
            Due.due("above fear and " + heard, x.was(1, heard + 6, 3), 1);
            Due.due("the other one hears nothing", x.was(0, heard + 6, 3), 1);
        }
        ParishUnion x = new ParishUnion();
        weak(x, 0);
        x.house(0, 0);
        Due.act(x, "fear 0", 0);
        // Hunger 1 .. 6, heard 0 .. 5: what was REFUSED in a WEEK is heard in the next one.
        x.week(6);
        Due.due("above by one each week", x.heard(0, 6), 6);
    }

    private static void greatestFear() {
        ParishUnion x = new ParishUnion();
        weak(x, 1);
        Due.act(x, "fear 9999", 0);
        x.week(20);
        isAt("it never asks", x, 0, DEAD);
        for (int week = 0; week < 20; week++) {
            Due.due("it never asks", x.gone(week, 5), 0);
        }
    }

    private static void wardsOfClauses() {
        for (int k = 0; k <= 3; k++) {
            ParishUnion x = new ParishUnion();
            weak(x, 1);
            Due.act(x, "fear 0;ward " + k + " o", 0);
            x.week(1);
            Due.due("its ward", x.about(0, 8), k);
            ParishUnion y = new ParishUnion();
            weak(y, 1);
            y.house(k, 0);
            Due.act(y, "fear 0;ward " + k + " o;ward " + (k + 1) % 4 + " o", 0);
            y.week(1);
            Due.due("no bed in its ward: no other one is tried", y.about(0, 5), 1);
            Due.due("refused", y.gone(0, 2), 1);
        }
        ParishUnion x = new ParishUnion();
        weak(x, 1);
        Due.act(x, "fear 0", 0);
        x.week(1);
        Due.due("without a ward clause: ward 0", x.about(0, 8), 0);
        ParishUnion y = new ParishUnion();
        weak(y, 1);
        Due.act(y, "fear 0;ward 1 s=1;ward 2 a<1", 0);
        y.week(1);
        Due.due("no ward clause holds: refused", y.gone(0, 2), 1);
        isAt("it stays", y, 0, 1);
        Due.due("it asked", y.was(0, 0, 3), 1);
        ParishUnion z = new ParishUnion();
        weak(z, 1);
        // The hunger by which a ward is told is the one with which it asks: 1, not 0.
        Due.act(z, "fear 0;ward 1 h<1;ward 2 h>1;ward 3 p=6;ward 0 p=1&h>0", 0);
        z.week(1);
        Due.due("by the hunger and the place of then", z.about(0, 8), 0);
    }

    private static void theLastBedFree() {
        for (int beds = 0; beds <= 3; beds++) {
            ParishUnion x = new ParishUnion();
            for (int i = 0; i < 3; i++) {
                weak(x, 1 + i);
            }
            x.house(2, beds);
            x.house(4, 9999);
            Due.act(x, "fear 0;ward 2 o", 0);
            x.week(1);
            Due.due("in the house of " + beds, x.count(7), beds);
            Due.due("refused", x.gone(0, 2), 3 - beds);
            Due.due("all asked", x.gone(0, 5), 3);
            for (int i = 0; i < 3; i++) {
                isAt("by numbers", x, i, i < beds ? AT_HOUSE : 1 + i);
                Due.due("where from", x.about(i, 10), i < beds ? 1 + i : NONE);
            }
        }
        ParishUnion x = new ParishUnion();
        for (int i = 0; i < 16; i++) {
            weak(x, 1);
        }
        x.house(3, 15);
        x.house(0, 20);
        Due.act(x, "fear 0;ward 3 o", 0);
        x.week(1);
        Due.due("fifteen beds for sixteen", x.count(7), 15);
        Due.due("the last one is refused", x.about(15, 5), 1);
    }

    private static void bedsByNumbers() {
        ParishUnion x = new ParishUnion();
        weak(x, 1);
        weak(x, 1);
        weak(x, 1);
        x.house(0, 1);
        x.house(1, 1);
        x.house(4, 9999);
        Due.act(x, "fear 2;ward 0 h>2", 0);
        x.week(2);
        Due.due("nobody asked yet", x.count(7), 0);
        x.master(0, 1);
        Due.act(x, "bind 99", 2);
        x.bind(0, 0);
        x.week(1);
        isAt("the first that asks", x, 1, AT_HOUSE);
        isAt("the next one is refused", x, 2, 1);
        x.run(0);
        x.week(1);
        Due.due("both ask", x.gone(3, 5), 2);
        Due.due("the bed is taken", x.gone(3, 2), 2);
    }

    // ---- step 3: who eats

    private static void theStoreHasTheDiet() {
        for (int store = 0; store <= 21; store++) {
            ParishUnion x = new ParishUnion();
            weak(x, 1);
            weak(x, 1);
            x.house(4, store);
            Due.act(x, "fear 0;diet 7", 0);
            x.frost(0, 9);
            x.week(1);
            int fed = Math.min(2, store / 7);
            Due.due("eaten of " + store, x.gone(0, 0), 7 * fed);
            Due.due("the store", x.count(12), store - 7 * fed);
            for (int i = 0; i < 2; i++) {
                hungers("4 less 3, or 2 more", x, i, i < fed ? 1 : 6);
                Due.due("eaten by it", x.was(i, 0, 1), i < fed ? 7 : 0);
            }
        }
    }

    private static void dietOfNothing() {
        ParishUnion x = new ParishUnion();
        weak(x, 1);
        Due.act(x, "fear 0;diet 0", 0);
        x.frost(0, 9);
        x.week(1);
        hungers("an empty store has 0 ounces", x, 0, 1);
        Due.due("0 ounces", x.gone(0, 0), 0);
        Due.due("the store", x.count(12), 0);
    }

    private static void greatestDiet() {
        ParishUnion x = new ParishUnion();
        weak(x, 1);
        x.house(4, 9999);
        x.price(99);
        Due.act(x, "fear 0;diet 9999", 0);
        x.week(1);
        Due.due("the whole store", x.was(0, 0, 1), 9999);
        Due.due("the whole store", x.count(12), 0);
        Due.due("at the greatest price", x.gone(0, 6), 989901);
        Due.due("owed", x.owed(1, 0, 0, -1), 989901);
        x.house(4, 9998);
        x.week(1);
        Due.due("an ounce too few", x.gone(1, 0), 0);
        hungers("2 more", x, 0, 2);
    }

    private static void hungerInTheHouse() {
        for (int hunger = 1; hunger <= 6; hunger++) {
            ParishUnion x = new ParishUnion();
            weak(x, 1);
            x.house(4, 9999);
            Due.act(x, "fear " + (hunger - 1), 0);
            x.week(hunger);
            hungers("3 less than " + hunger, x, 0, Math.max(0, hunger - 3));
            x.house(4, 0);
            x.week(1);
            hungers("2 more, and no hunger of a parish", x, 0, Math.max(0, hunger - 3) + 2);
        }
    }

    // ---- step 4: who falls ill

    private static void moreThanHalfOfTheBeds() {
        for (int taken = 1; taken <= 4; taken++) {
            for (int beds = 0; beds <= 10; beds++) {
                ParishUnion x = new ParishUnion();
                for (int i = 0; i < taken; i++) {
                    weak(x, 1);
                }
                x.house(1, 20);
                x.house(4, 9999);
                Due.act(x, "fear 0;ward 1 o", 0);
                x.week(1);
                Due.due("all are in", x.count(7), taken);
                // BEDS may be fewer than those who lie in them.
                x.house(1, beds);
                x.frost(1, 9);
                x.week(1);
                Due.due(taken + " of " + beds, x.about(0, 7), taken > beds - taken ? 1 : 0);
            }
        }
    }

    private static void bedsOfItsWardAlone() {
        ParishUnion x = new ParishUnion();
        weak(x, 1);
        weak(x, 2);
        weak(x, 2);
        x.house(0, 2);
        x.house(3, 3);
        x.house(4, 9999);
        Due.act(x, "fear 0;ward 0 p=1;ward 3 p=2", 0);
        x.frost(0, 9);
        x.week(1);
        Due.due("1 of 2", x.about(0, 7), 0);
        Due.due("2 of 3", x.about(1, 7), 1);
        Due.due("2 of 3", x.about(2, 7), 1);
    }

    private static void strengthBelowFrost() {
        for (int strength = 0; strength <= 9; strength++) {
            for (int frost = 0; frost <= 9; frost++) {
                ParishUnion x = new ParishUnion();
                x.person(0, -1000, 1, -1, strength);
                x.house(0, 1);
                Due.act(x, "fear 0", 0);
                x.frost(0, 9);
                x.week(1);
                Due.due("it is in, with hunger", x.about(0, 5), AT_HOUSE);
                int ill = x.about(0, 7);
                Due.due("strength " + strength + " of frost 9", ill, strength < 9 ? 1 : 0);
                x.frost(1, frost);
                x.week(1);
                Due.due("strength " + strength + " of frost " + frost, x.about(0, 7),
                    strength < frost ? ill + 1 : Math.max(0, ill - 1));
            }
        }
    }

    private static void illAtLeastAndAtMost() {
        ParishUnion x = new ParishUnion();
        weak(x, 1);
        x.house(0, 1);
        x.house(4, 9999);
        Due.act(x, "fear 0", 0);
        int[] frosts = {1, 0, 0, 1, 1, 1, 1, 0, 1, 1};
        int[] ill = {1, 0, 0, 1, 2, 3, 4, 3, 4, 5};
        for (int week = 0; week < frosts.length; week++) {
            x.frost(week, frosts[week]);
            x.week(1);
            Due.due("ill in week " + week, x.about(0, 7), ill[week]);
            isAt("dead with 5", x, 0, ill[week] == 5 ? DEAD : AT_HOUSE);
        }
        Due.due("it died in the house", x.gone(9, 3), 1);
        x.frost(10, 9);
        x.week(1);
        Due.due("the dead are as they were", x.about(0, 7), 5);
        // Who is out of the house is as ill as it was.
        ParishUnion y = new ParishUnion();
        y.person(0, -100, 1, -1, 0);
        y.house(0, 1);
        y.house(4, 9999);
        y.master(0, 1);
        Due.act(y, "fear 0", 0);
        y.frost(0, 1);
        y.frost(1, 1);
        y.week(2);
        y.bind(0, 0);
        y.week(3);
        Due.due("bound", y.about(0, 7), 2);
        y.run(0);
        Due.act(y, "fear 99", 0);
        y.week(3);
        Due.due("in a parish", y.about(0, 7), 2);
    }

    // ---- step 5: who dies

    private static void hungerTwenty() {
        ParishUnion x = new ParishUnion();
        weak(x, 3);
        Due.act(x, "fear 99", 0);
        x.week(19);
        hungers("19", x, 0, 19);
        isAt("it lives", x, 0, 3);
        Due.due("nobody died", x.count(8), 0);
        x.week(1);
        hungers("20", x, 0, 20);
        isAt("it is dead", x, 0, DEAD);
        Due.due("became dead", x.gone(19, 4), 1);
        Due.due("not in the house", x.gone(19, 3), 0);
        Due.due("not ahead of that", x.gone(18, 4), 0);
        x.week(1);
        Due.due("once", x.gone(20, 4), 0);
        // In the house from 17 on: 17 + 2 is 19, then 21.
        ParishUnion y = new ParishUnion();
        weak(y, 3);
        Due.act(y, "fear 16", 0);
        y.week(17);
        hungers("19 in the house", y, 0, 19);
        isAt("it lives", y, 0, AT_HOUSE);
        y.week(1);
        hungers("21 in the house", y, 0, 21);
        isAt("it is dead", y, 0, DEAD);
        Due.due("in the house", y.gone(17, 3), 1);
        Due.due("became dead", y.gone(17, 4), 1);
        // From 18 on: 20 in the same WEEK.
        ParishUnion z = new ParishUnion();
        weak(z, 3);
        Due.act(z, "fear 17", 0);
        z.week(18);
        hungers("20 in the house", z, 0, 20);
        isAt("it is dead", z, 0, DEAD);
        Due.due("it asked", z.gone(17, 5), 1);
        Due.due("it died in the house", z.gone(17, 3), 1);
    }

    /** 19, then 1 and 3 by frost, and 2 without bread: hunger never comes to be 30. */
    private static void greatestHunger() {
        ParishUnion x = new ParishUnion();
        weak(x, 3);
        Due.act(x, "fear 22", 0);
        x.frost(19, 9);
        x.week(20);
        hungers("19 + 4 + 2", x, 0, 25);
        isAt("it is dead", x, 0, DEAD);
        x.week(20);
        hungers("the dead are as they were", x, 0, 25);
        // Bread saves who would be dead else.
        ParishUnion y = new ParishUnion();
        weak(y, 3);
        y.house(4, 10);
        Due.act(y, "fear 19", 0);
        y.week(20);
        hungers("20 less 3", y, 0, 17);
        isAt("it lives", y, 0, AT_HOUSE);
    }

    private static void boundOnesStay() {
        ParishUnion x = new ParishUnion();
        x.person(0, -100, 3, -1, 0);
        x.master(0, 1);
        Due.act(x, "fear 99;give 1 o", 0);
        Due.act(x, "give 1 s=1", 1);
        x.week(19);
        int hunger = x.about(0, 6);
        x.bind(0, 0);
        for (int week = 19; week < 29; week++) {
            x.frost(week, 9);
        }
        x.week(10);
        isAt("bound", x, 0, BOUND);
        hungers("as it was", x, 0, hunger);
        Due.due("it does not ask", x.gone(28, 5), 0);
        Due.due("nothing is given", x.gone(28, 1), 0);
    }

    // ---- step 6: who goes back

    private static void backToTheParish() {
        for (int strength = 4; strength <= 6; strength++) {
            for (int frost = 3; frost <= 5; frost++) {
                ParishUnion x = new ParishUnion();
                x.person(0, -1000, 1, -1, strength);
                x.carry(x.order(0, 4));
                x.house(4, 9999);
                x.house(0, 20);
                Due.act(x, "fear 0;diet 1", 0);
                x.frost(0, 9);
                x.week(1);
                hungers("4 - 1 - 3", x, 0, 0);
                isAt("frost 9 keeps it", x, 0, AT_HOUSE);
                x.frost(1, frost);
                x.week(1);
                boolean back = strength >= 5 && frost < 4;
                isAt("strength " + strength + ", frost " + frost, x, 0, back ? 4 : AT_HOUSE);
                Due.due("from where it asked", x.about(0, 10), back ? NONE : 4);
                Due.due("its ward", x.about(0, 8), back ? NONE : 0);
                Due.due("in the house", x.count(7), back ? 0 : 1);
                Due.due("at behind the week", x.was(0, 1, 0), back ? 4 : AT_HOUSE);
            }
        }
        // Hunger 5 and 4 - 1 in the second WEEK is 3 + 2: 5; less 3 a week: 2, then 0.
        ParishUnion x = new ParishUnion();
        x.person(0, -1000, 1, -1, 5);
        Due.act(x, "fear 0;diet 1", 0);
        x.frost(0, 9);
        x.week(1);
        hungers("4 - 1 + 2", x, 0, 5);
        x.house(4, 9999);
        x.week(1);
        hungers("2", x, 0, 2);
        isAt("hunger keeps it", x, 0, AT_HOUSE);
        x.week(1);
        hungers("0", x, 0, 0);
        isAt("back in the same week", x, 0, 1);
        // Hunger 1 keeps, too: 4 of frost 9, and less 3.
        ParishUnion y = new ParishUnion();
        y.person(0, -1000, 1, -1, 5);
        y.house(4, 9999);
        Due.act(y, "fear 3;diet 1", 0);
        y.frost(0, 6);
        y.frost(1, 6);
        y.week(2);
        hungers("2 + 2 - 3", y, 0, 1);
        isAt("in the house", y, 0, AT_HOUSE);
        y.house(4, 0);
        ParishUnion z = new ParishUnion();
        z.person(0, -1000, 1, -1, 5);
        z.house(4, 9999);
        Due.act(z, "fear 0;diet 1", 0);
        z.frost(0, 3);
        z.week(1);
        isAt("in and back in one week", z, 0, 1);
        Due.due("it asked", z.was(0, 0, 3), 1);
        Due.due("it has eaten", z.was(0, 0, 1), 1);
        Due.due("it was not refused", z.gone(0, 2), 0);
    }

    /** A bed that is left in step 5 or 6 is free in the next WEEK, not ahead of that. */
    private static void leftBedsAreFree() {
        ParishUnion x = new ParishUnion();
        x.person(0, -1000, 1, -1, 5);
        x.person(0, -1000, 2, -1, 5);
        x.house(0, 1);
        x.house(4, 9999);
        Due.act(x, "fear 0;diet 1", 0);
        x.frost(0, 3);
        x.week(1);
        isAt("in and back", x, 0, 1);
        Due.due("the other one was refused", x.gone(0, 2), 1);
        isAt("the other one", x, 1, 2);
        x.frost(1, 3);
        x.week(1);
        Due.due("the bed is free for the first", x.was(0, 1, 1), 1);
        Due.due("and taken for the other one", x.gone(1, 2), 1);
    }

    // ---- weeks

    private static void weeksAtATime() {
        ParishUnion x = new ParishUnion();
        Due.due("no week", x.week(0), BAD);
        Due.due("less than none", x.week(-1), BAD);
        Due.due("21 weeks", x.week(21), BAD);
        Due.due("NOW stays", x.count(5), 0);
        Due.due("one", x.week(1), 1);
        Due.due("twenty", x.week(20), 21);
        for (int i = 0; i < 13; i++) {
            x.week(20);
        }
        x.week(1);
        Due.due("NOW", x.count(5), 282);
        Due.due("19 are too many", x.week(19), BAD);
        Due.due("20 are too many", x.week(20), BAD);
        Due.due("NOW stays", x.count(5), 282);
        Due.due("18 are not", x.week(18), 300);
        Due.due("one is too many", x.week(1), BAD);
        // Twenty WEEKS at once are as twenty WEEKS one by one.
        ParishUnion a = manyWeeks(20);
        ParishUnion b = manyWeeks(1);
        for (int week = 0; week < 20; week++) {
            for (int what = 0; what < 7; what++) {
                Due.due("gone " + week + ", " + what, a.gone(week, what), b.gone(week, what));
            }
            for (int i = 0; i < 3; i++) {
                Due.due("was " + i + ", " + week, a.was(i, week, 0), b.was(i, week, 0));
            }
        }
    }

    private static ParishUnion manyWeeks(int atATime) {
        ParishUnion x = new ParishUnion();
        weak(x, 0);
        weak(x, 1);
        x.person(1, -600, 2, -1, 6);
        x.road(0, 1, 2);
        x.house(0, 1);
        x.house(4, 60);
        Due.act(x, "fear 1;give 2 o&h>4;share h", 0);
        for (int week = 0; week < 20; week++) {
            x.frost(week, week % 10);
        }
        for (int i = 0; i < 20 / atATime; i++) {
            x.week(atATime);
        }
        return x;
    }

    private static void sumsOfAWeek() {
        ParishUnion x = new ParishUnion();
        Due.due("none went by", x.gone(0, 0), NONE);
        x.week(1);
        for (int what = 0; what < 7; what++) {
            Due.due("nobody is there", x.gone(0, what), 0);
            Due.due("week 1 did not go by", x.gone(1, what), NONE);
            Due.due("no week -1", x.gone(-1, what), NONE);
        }
        Due.due("no what 7", x.gone(0, 7), NONE);
        Due.due("no what -1", x.gone(0, -1), NONE);
        weak(x, 1);
        Due.due("it was not there in week 0", x.was(0, 0, 0), NONE);
        Due.due("it was not there in week 0", x.was(0, 0, 3), NONE);
        x.week(1);
        int[] was = {1, 0, 0, 0};
        for (int what = 0; what < 4; what++) {
            Due.due("was", x.was(0, 1, what), was[what]);
        }
        Due.due("no what 4", x.was(0, 1, 4), NONE);
        Due.due("no what -1", x.was(0, 1, -1), NONE);
        Due.due("no week 2 yet", x.was(0, 2, 0), NONE);
        Due.due("no week -1", x.was(0, -1, 0), NONE);
        Due.due("no person 1", x.was(1, 1, 0), NONE);
        // What was in one WEEK is not in the next one.
        ParishUnion z = new ParishUnion();
        weak(z, 1);
        z.house(4, 10);
        Due.act(z, "fear 1;give 5 f>8", 0);
        z.frost(0, 9);
        z.week(2);
        int[] first = {AT_HOUSE, 10, 5, 1};
        int[] second = {AT_HOUSE, 0, 0, 0};
        for (int what = 0; what < 4; what++) {
            Due.due("was in week 0, " + what, z.was(0, 0, what), first[what]);
            Due.due("was in week 1, " + what, z.was(0, 1, what), second[what]);
        }
        int[] sums = {10, 5, 0, 0, 0, 1, 15};
        for (int what = 0; what < 7; what++) {
            Due.due("gone in week 0, " + what, z.gone(0, what), sums[what]);
            Due.due("gone in week 1, " + what, z.gone(1, what), 0);
        }
        // Sixteen are given, and none asks.
        ParishUnion y = new ParishUnion();
        for (int i = 0; i < 16; i++) {
            weak(y, 1);
        }
        y.house(0, 0);
        Due.act(y, "fear 18;give 9999 o&h>18", 0);
        y.week(20);
        Due.due("all are given", y.gone(18, 1), 16 * 9999);
        Due.due("none asked, with hunger 17", y.gone(18, 5), 0);
        Due.due("cost", y.gone(18, 6), 16 * 9999);
        y.price(0);
        Due.due("gifts have no price", y.gone(18, 6), 16 * 9999);
    }
}
