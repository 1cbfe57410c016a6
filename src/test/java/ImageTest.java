import java.util.ArrayList;
import java.util.Arrays;
import java.util.List;
import java.util.function.ToIntFunction;

/** Promises 43 to 47: a told week, the image, counts. */
public final class ImageTest {
    private static final int NONE = -1, BAD = -2, STATE = -3, NOBODY = -5;
    /** So many, asked four times, leave room for the changes in the 512 calls of an object. */
    private static final int QUESTIONS_OF_ONE = 90;

    private ImageTest() {
    }

    public static void main(String[] args) {
        told();
        check();
        image();
        imageOfAll();
        imageOfWhatWasOverwritten();
        personsBehindUndo();
        illnessBehindUndo();
        proofsBehindUndo();
        askedFromBehindUndo();
        rowsBehindUndo();
        nightsBehindUndo();
        actsBehindUndo();
        counts();
        Due.end();
    }

    private static void told() {
        ParishUnion x = new ParishUnion();
        Due.due("told none", x.told(0, 0), NONE);
        x.person(0, -1000, 3, -1, 5);
        Due.due("told none ahead of bad", x.told(1, 9), NONE);
        Due.due("told none", x.told(-1, 0), NONE);
        Due.due("told bad", x.told(0, 9), BAD);
        Due.due("told bad", x.told(0, -1), BAD);
        Due.due("told", x.told(0, 8), 0);
        Due.due("told", x.told(0, 3), 8);
        Due.due("told", x.told(0, 0), 3);
        Due.due("told changes nothing else", x.about(0, 5), 3);
    }

    private static void check() {
        ParishUnion x = new ParishUnion();
        Due.due("check none", x.check(0), NONE);
        x.week(1);
        Due.due("nobody was there", x.check(0), NOBODY);
        Due.due("check none", x.check(1), NONE);
        Due.due("check none", x.check(-1), NONE);
        x.person(0, -1000, 3, -1, 5);
        x.person(0, -1000, 0, -1, 5);
        x.week(1);
        x.person(0, -1000, 4, -1, 5);
        Due.due("nobody was there in week 0", x.check(0), NOBODY);
        Due.due("the first was elsewhere", x.check(1), 0);
        x.told(0, 3);
        Due.due("right: the third was not there then", x.check(1), NOBODY);
        x.told(1, 6);
        Due.due("the second was elsewhere", x.check(1), 1);
        x.week(1);
        x.told(1, 0);
        Due.due("the third was elsewhere", x.check(2), 2);
        x.carry(x.order(0, 5));
        Due.due("as it was then", x.check(1), NOBODY);
    }

    private static void image() {
        ParishUnion x = new ParishUnion();
        Due.due("no image", x.undo(), STATE);
        x.week(2);
        Due.due("image", x.image(), 2);
        x.week(3);
        Due.due("undo", x.undo(), 2);
        Due.due("now", x.count(5), 2);
        Due.due("undo again", x.undo(), 2);
        x.week(1);
        Due.due("undo again", x.undo(), 2);
        x.week(4);
        Due.due("another image", x.image(), 6);
        x.week(1);
        Due.due("undo", x.undo(), 6);
    }

    /** Every part is changed twice, ahead of the image and behind it; each object is asked some of all questions. */
    private static void imageOfAll() {
        List<ToIntFunction<ParishUnion>> all = questions();
        boolean same = true;
        for (int from = 0; from < all.size(); from += QUESTIONS_OF_ONE) {
            same &= imageOf(from, all.subList(from, Math.min(all.size(), from + QUESTIONS_OF_ONE)));
        }
        Due.due("something has changed", same ? 1 : 0, 0);
    }

    /** Whether nothing was another one behind the changes. */
    private static boolean imageOf(int from, List<ToIntFunction<ParishUnion>> some) {
        ParishUnion x = new ParishUnion();
        change(x);
        x.image();
        int[] before = look(x, some);
        change(x);
        x.week(5);
        boolean same = Arrays.equals(before, look(x, some));
        x.undo();
        int[] after = look(x, some);
        change(x);
        x.undo();
        int[] again = look(x, some);
        for (int i = 0; i < before.length; i++) {
            Due.due("look " + (from + i), after[i], before[i]);
            Due.due("look again " + (from + i), again[i], before[i]);
        }
        return same;
    }

    private static int[] look(ParishUnion x, List<ToIntFunction<ParishUnion>> some) {
        return some.stream().mapToInt(question -> question.applyAsInt(x)).toArray();
    }

    private static void change(ParishUnion x) {
        int n = x.count(5) + 1;
        int who = x.count(0);
        x.parish(1, 200 + n);
        x.road(0, 1, 4);
        x.road(n % 5, 5, 3);
        x.person(0, -1000 + n, 1, -1, 0);
        x.person(1, -500 + n, 2, -1, n);
        x.person(0, -100 + n, 3, who, 2);
        int right = x.hire(who, 4, 60, n - 2, false, false);
        x.rated(who, 3, 500, n - 1, false);
        x.wed(who + 1, who, 0, true);
        x.proof(right, n > 1);
        Due.act(x, "give 3 h>2;fear 1;diet " + n, n);
        x.carry(x.order(who, 5));
        x.order(who + 1, 0);
        x.house(0, 5 + n);
        x.house(4, 300 + n);
        x.price(n + 5);
        x.frost(n + 1, 8);
        x.frost(200, n);
        x.week(3);
        x.night(n % 8, n % 6, n);
        x.master(2, 5);
        x.bind(who + 2, 2);
        x.choice(0, n, n);
        x.frosts(n % 3, n, 2);
        x.told(who, 6);
        x.told(0, n % 9);
        Due.feed(x, "wed n;ki");
    }

    private static List<ToIntFunction<ParishUnion>> questions() {
        List<ToIntFunction<ParishUnion>> all = new ArrayList<>();
        for (int i = 0; i < 14; i++) {
            int what = i;
            all.add(x -> x.count(what));
        }
        for (int i = 0; i < 7; i++) {
            int p = i;
            for (int j = 0; j < 11; j++) {
                int what = j;
                all.add(x -> x.about(p, what));
            }
            all.add(x -> x.maybe(p, 9, -1, 0));
            all.add(x -> x.maybe(p, 9, -1, 1));
            all.add(x -> x.offer(p, 0));
            for (int j = 0; j < 6; j++) {
                int what = j;
                all.add(x -> x.right(p, what));
            }
        }
        for (int i = 0; i < 6; i++) {
            int a = i;
            for (int j = 0; j < 6; j++) {
                int b = j;
                all.add(x -> x.far(a, b));
            }
            all.add(x -> x.heard(a, 12));
        }
        for (int i = 0; i < 12; i++) {
            int w = i;
            for (int j = 0; j < 20; j++) {
                int what = j;
                all.add(x -> x.force(w, what));
                all.add(x -> x.gone(w, what));
                all.add(x -> x.was(what, w, 0));
                all.add(x -> x.was(what, w, 2));
            }
            all.add(x -> x.share(1, w, -1));
            all.add(x -> x.check(w));
        }
        all.add(x -> x.unlike(-1));
        all.add(x -> x.unlike(2));
        all.add(x -> x.greatest());
        all.add(x -> x.one(255));
        all.add(x -> x.plan(0));
        all.add(x -> x.plan(1));
        return all;
    }

    private static void imageOfWhatWasOverwritten() {
        ParishUnion x = new ParishUnion();
        x.person(0, -100, 1, -1, 2);
        x.person(0, -1000, 2, -1, 0);
        Due.act(x, "fear 0", 0);
        x.house(4, 100);
        x.week(1);
        set(x, 7, "give 7 s=0");
        x.bind(0, 1);
        int order = x.order(0, 5);
        int may = x.hire(1, 3, 60, 0, false, false);
        x.image();
        x.run(0);
        x.carry(x.order(0, 4));
        x.text(0);
        x.proof(may, false);
        set(x, 3, "diet 3");
        x.week(2);
        Due.due("undo", x.undo(), 1);
        Due.due("the order", order, STATE);
        Due.due("rents", x.parish(4, 0), 7);
        Due.due("beds", x.house(2, 0), 7);
        Due.due("price", x.price(0), 7);
        Due.due("frost", x.frost(9, 0), 7);
        Due.due("room", x.master(1, 9), 7);
        Due.due("told", x.told(1, 0), 7);
        Due.due("bound", x.about(0, 9), 1);
        Due.due("may", x.right(may, 5), 0);
        Due.due("in the house from 2", x.about(1, 10), 2);
        Due.due("in ward 0", x.about(1, 8), 0);
        Due.due("the store", x.count(12), 80);
        Due.due("the tape", x.text(1), 1);
        Due.due("the tape as it was", x.offer(1, 0), 7);
        Due.feed(x, "give 7 f>6;fear 99");
        Due.due("the row as it was", x.tried(2, 2), 0);
        x.run(0);
        Due.feed(x, "give 7 f>6;fear 99");
        Due.due("the row as it was, 7 times for who ran", x.tried(2, 2), 49);
    }

    /** Most of what has one place alone is n, or bears n. */
    private static void set(ParishUnion x, int n, String text) {
        x.parish(4, n);
        x.house(2, n);
        x.price(n);
        x.frost(9, n);
        x.master(1, n);
        x.told(1, n);
        x.frosts(2, 1111111111L * n / (n == 7 ? 1000 : 1), n == 7 ? 7 : 10);
        Due.feed(x, text);
    }

    /** Who comes in the place of one that was undone is new. */
    private static void personsBehindUndo() {
        ParishUnion x = new ParishUnion();
        x.image();
        x.person(0, -1000, 1, -1, 0);
        x.frost(0, 9);
        Due.act(x, "fear 0", 0);
        x.house(0, 1);
        x.house(4, 5);
        x.told(0, 4);
        x.week(3);
        Due.due("ill", x.about(0, 7) > 0 ? 1 : x.about(0, 6) > 0 ? 1 : 0, 1);
        x.undo();
        Due.due("nobody", x.about(0, 0), NONE);
        x.person(1, -500, 2, -1, 3);
        int[] due = {1, -500, 2, -1, 3, 2, 0, 0, -1, -1, -1};
        for (int what = 0; what < 11; what++) {
            Due.due("about " + what, x.about(0, what), due[what]);
        }
        Due.due("told", x.told(0, 1), 0);
        x.hire(0, 3, 60, 0, false, false);
        x.proof(0, true);
        x.undo();
        x.person(1, -500, 2, -1, 3);
        x.hire(0, 4, 60, 0, false, false);
        Due.due("not proved yet", x.right(0, 5), 0);
        x.carry(x.order(0, 3));
        x.undo();
        x.person(1, -500, 2, -1, 3);
        x.order(0, 4);
        Due.due("not carried yet", x.carry(0), 4);
    }

    /** Who comes in the place of one that was ill is not. */
    private static void illnessBehindUndo() {
        ParishUnion x = new ParishUnion();
        x.house(0, 1);
        x.house(4, 100);
        Due.act(x, "fear 0", 0);
        x.frost(0, 1);
        x.frost(1, 1);
        x.image();
        x.person(0, -1000, 1, -1, 0);
        x.week(2);
        Due.due("ill", x.about(0, 7), 2);
        x.undo();
        x.person(0, -1000, 2, -1, 9);
        Due.due("not ill", x.about(0, 7), 0);
        Due.due("no hunger", x.about(0, 6), 0);
        x.week(1);
        Due.due("not ill", x.about(0, 7), 0);
    }

    private static void proofsBehindUndo() {
        ParishUnion x = new ParishUnion();
        x.person(0, -1000, 1, -1, 0);
        x.hire(0, 2, 60, -10, false, false);
        x.hire(0, 3, 60, -9, false, false);
        x.proof(1, true);
        x.image();
        x.undo();
        Due.due("proved", x.right(1, 5), 1);
        Due.due("by bench 0", x.settle(0, 0, 0, -1), 3);
        x.proof(0, false);
        x.proof(1, false);
        x.undo();
        Due.due("entries", x.count(2), 3);
        Due.due("may", x.right(0, 5), 0);
        x.hire(0, 4, 60, -8, false, false);
        Due.due("may, by one more entry", x.right(0, 5), 0);
        Due.due("it was not, in the image", x.proof(0, true), 5);
        Due.due("proved", x.right(0, 5), 1);
        Due.due("it was, in the image", x.proof(1, false), STATE);
        Due.due("proved as in the image", x.right(1, 5), 1);
        x.proof(2, true);
        x.undo();
        x.rated(0, 5, 1, 0, false);
        Due.due("another right in its place", x.right(2, 0), 2);
        Due.due("may", x.right(2, 5), 0);
        Due.due("not proved", x.proof(2, false), 5);
        x.image();
        x.undo();
        Due.due("disproved", x.right(2, 5), 2);
    }

    private static void askedFromBehindUndo() {
        ParishUnion x = new ParishUnion();
        x.person(0, -100, 1, -1, 5);
        x.house(4, 100);
        Due.act(x, "fear 0", 0);
        x.frost(0, 9);
        x.week(1);
        Due.due("in the house", x.about(0, 10), 1);
        x.image();
        x.master(0, 1);
        x.bind(0, 0);
        x.run(0);
        x.carry(x.order(0, 4));
        x.frost(1, 9);
        x.week(1);
        Due.due("in the house from another one", x.about(0, 10), 4);
        x.undo();
        Due.due("from the first one", x.about(0, 10), 1);
        x.week(1);
        Due.due("back there", x.about(0, 5), 1);
        x.undo();
        Due.due("in the house", x.about(0, 5), 6);
        Due.due("in ward 0", x.about(0, 8), 0);
        Due.due("from the first one", x.about(0, 10), 1);
    }

    private static void rowsBehindUndo() {
        ParishUnion x = new ParishUnion();
        x.person(0, -1000, 1, -1, 9);
        x.frosts(0, 78, 2);
        x.image();
        x.frosts(0, 1, 1);
        x.frosts(2, 111, 3);
        x.choice(0, 1, 1);
        x.undo();
        Due.feed(x, "give 1 o");
        Due.due("no row 2", x.tried(2, 2), NONE);
        Due.due("two weeks of row 0", x.tried(0, 2), 2);
        Due.feed(x, "give 1 f>6&f<8");
        Due.due("7", x.tried(0, 2), 1);
        Due.feed(x, "give 1 f>7");
        Due.due("8", x.tried(0, 2), 1);
        Due.due("no choice", x.count(11), 0);
        ParishUnion y = new ParishUnion();
        y.image();
        y.frosts(1, 0, 1);
        Due.due("a plan", y.plan(0), 0);
        y.undo();
        Due.due("no row", y.plan(0), STATE);
    }

    /** NIGHTS of earlier WEEKS, told later. */
    private static void nightsBehindUndo() {
        ParishUnion x = new ParishUnion();
        x.road(0, 1, 5);
        x.night(0, 0, 20);
        x.night(1, 1, 25);
        x.night(2, 0, 29);
        x.image();
        Due.due("two", x.greatest(), 3);
        x.night(3, 1, 1);
        x.night(3, 1, 2);
        x.night(3, 1, 3);
        x.undo();
        Due.due("nights", x.count(10), 3);
        Due.due("two", x.greatest(), 3);
        Due.due("the first and the third", x.one(5), 1);
        Due.due("the second and the third", x.one(6), 0);
        Due.due("no nights of the fourth", x.one(11), 1);
        x.night(0, 1, 27);
        Due.due("two weeks later", x.one(5), 0);
        Due.due("the second, three times", x.one(3), 1);
        x.undo();
        Due.due("the first and the third", x.one(5), 1);
    }

    private static void actsBehindUndo() {
        ParishUnion x = new ParishUnion();
        x.person(0, -1000, 1, -1, 9);
        Due.act(x, "give 3 s=1;give 4 o;ward 2 o", 0);
        x.image();
        Due.act(x, "give 5 o;ward 3 o", 0);
        x.undo();
        Due.due("given by the first", x.offer(0, 0), 4);
        Due.due("the ward by the first", x.offer(0, 1), 2);
        Due.act(x, "give 6 s=0", 0);
        Due.due("given by another one", x.offer(0, 0), 6);
        Due.due("it has one clause", x.force(0, 8), 1);
        Due.due("the ward by the first", x.force(0, 19), 0);
        x.undo();
        Due.due("given by the first", x.offer(0, 0), 4);
        Due.due("two clauses", x.force(0, 8), 2);
    }

    private static void counts() {
        ParishUnion x = new ParishUnion();
        Due.due("count none", x.count(14), NONE);
        Due.due("count none", x.count(-1), NONE);
        x.person(0, -1000, 1, -1, 0);
        x.person(0, -100, 1, -1, 0);
        x.person(0, -100, 1, -1, 0);
        x.hire(0, 1, 1, 0, false, false);
        x.proof(0, true);
        Due.act(x, "fear 0;ward 3 a<14", 0);
        x.order(0, 2);
        x.house(3, 1);
        x.house(4, 500);
        x.price(9);
        x.week(1);
        Due.feed(x, "abc");
        x.night(1, 1, 1);
        x.choice(1, 1, 1);
        x.master(0, 2);
        x.bind(2, 0);
        int[] due = {3, 1, 2, 1, 1, 1, 3, 1, 0, 1, 1, 1, 490, 9};
        for (int what = 0; what < 14; what++) {
            Due.due("count " + what, x.count(what), due[what]);
        }
        Due.act(x, "fear 99", 1);
        x.week(20);
        Due.due("dead", x.count(8), 1);
        Due.due("a new text behind others", x.count(3), 1);
        Due.due("the tape was no act", x.count(6), 0);
    }
}
