/** Promises 43 to 47: a told week, the image, counts. */
public final class ImageTest {
    private static final int NONE = -1, BAD = -2, STATE = -3, NOBODY = -5;

    private ImageTest() {
    }

    public static void main(String[] args) {
        told();
        check();
        image();
        imageOfAll();
        imageOfWhatWasOverwritten();
        personsBehindUndo();
        counts();
        Due.end();
    }

    private static void told() {
        ParishUnion x = new ParishUnion();
        Due.due("told none", x.told(0, 0), NONE);
        x.person(0, -1000, 3, -1, 5);
        Due.due("told none ahead of bad", x.told(1, 9), NONE);
        Due.due("told none", x.told(-1, 0), NONE);
        Due.due("told bad", x.told(0, 9), BAD);
        Due.due("told bad", x.told(0, -1), BAD);
        Due.due("told", x.told(0, 8), 0);
        Due.due("told", x.told(0, 3), 8);
        Due.due("told", x.told(0, 0), 3);
        Due.due("told changes nothing else", x.about(0, 5), 3);
    }

    private static void check() {
        ParishUnion x = new ParishUnion();
        Due.due("check none", x.check(0), NONE);
        x.week(1);
        Due.due("nobody was there", x.check(0), NOBODY);
        Due.due("check none", x.check(1), NONE);
        Due.due("check none", x.check(-1), NONE);
        x.person(0, -1000, 3, -1, 5);
        x.person(0, -1000, 0, -1, 5);
        x.week(1);
        x.person(0, -1000, 4, -1, 5);
        Due.due("nobody was there in week 0", x.check(0), NOBODY);
        Due.due("the first was elsewhere", x.check(1), 0);
        x.told(0, 3);
        Due.due("right: the third was not there then", x.check(1), NOBODY);
        x.told(1, 6);
        Due.due("the second was elsewhere", x.check(1), 1);
        x.week(1);
        x.told(1, 0);
        Due.due("the third was elsewhere", x.check(2), 2);
        x.carry(x.order(0, 5));
        Due.due("as it was then", x.check(1), NOBODY);
    }

    private static void image() {
        ParishUnion x = new ParishUnion();
        Due.due("no image", x.undo(), STATE);
        x.week(2);
        Due.due("image", x.image(), 2);
        x.week(3);
        Due.due("undo", x.undo(), 2);
        Due.due("now", x.count(5), 2);
        Due.due("undo again", x.undo(), 2);
        x.week(1);
        Due.due("undo again", x.undo(), 2);
        x.week(4);
        Due.due("another image", x.image(), 6);
        x.week(1);
        Due.due("undo", x.undo(), 6);
    }

    /** Every part is changed twice, ahead of the image and behind it. */
    private static void imageOfAll() {
        ParishUnion x = new ParishUnion();
        change(x);
        x.image();
        long[] before = look(x);
        change(x);
        x.week(5);
        boolean same = true;
        long[] other = look(x);
        for (int i = 0; i < before.length; i++) {
            same &= before[i] == other[i];
        }
        Due.due("something has changed", same ? 1 : 0, 0);
        x.undo();
        long[] after = look(x);
        for (int i = 0; i < before.length; i++) {
            Due.due("look " + i, after[i], before[i]);
        }
        change(x);
        x.undo();
        long[] again = look(x);
        for (int i = 0; i < before.length; i++) {
            Due.due("look again " + i, again[i], before[i]);
        }
    }

    private static void change(ParishUnion x) {
        int n = x.count(5) + 1;
        int who = x.count(0);
        x.parish(1, 200 + n);
        x.road(0, 1, 4);
        x.road(n % 5, 5, 3);
        x.person(0, -1000 + n, 1, -1, 0);
        x.person(1, -500 + n, 2, -1, n);
        x.person(0, -100 + n, 3, who, 2);
        int right = x.hire(who, 4, 60, n - 2, false, false);
        x.rated(who, 3, 500, n - 1, false);
        x.wed(who + 1, who, 0, true);
        x.proof(right, n > 1);
        Due.act(x, "give 3 h>2;fear 1;diet " + n, n);
        x.carry(x.order(who, 5));
        x.order(who + 1, 0);
        x.house(0, 5 + n);
        x.house(4, 300 + n);
        x.price(n + 5);
        x.frost(n + 1, 8);
        x.frost(200, n);
        x.week(3);
        x.night(n % 8, n % 6, n);
        x.master(2, 5);
        x.bind(who + 2, 2);
        x.choice(0, n, n);
        x.frosts(n % 3, n, 2);
        x.told(who, 6);
        x.told(0, n % 9);
        Due.feed(x, "wed n;ki");
    }

    private static long[] look(ParishUnion x) {
        java.util.List<Long> seen = new java.util.ArrayList<>();
        for (int i = 0; i < 14; i++) {
            seen.add((long) x.count(i));
        }
        for (int p = 0; p < 7; p++) {
            for (int what = 0; what < 11; what++) {
                seen.add((long) x.about(p, what));
            }
            seen.add((long) x.maybe(p, 9, -1, 0));
            seen.add((long) x.maybe(p, 9, -1, 1));
            seen.add((long) x.offer(p, 0));
        }
        for (int r = 0; r < 7; r++) {
            for (int what = 0; what < 6; what++) {
                seen.add((long) x.right(r, what));
            }
        }
        for (int a = 0; a < 6; a++) {
            for (int b = 0; b < 6; b++) {
                seen.add((long) x.far(a, b));
            }
            seen.add((long) x.heard(a, 12));
        }
        for (int w = 0; w < 12; w++) {
            for (int what = 0; what < 20; what++) {
                seen.add((long) x.force(w, what));
                seen.add((long) x.gone(w, what));
                seen.add((long) x.was(what, w, 0));
                seen.add((long) x.was(what, w, 2));
            }
            seen.add((long) x.share(1, w, -1));
            seen.add((long) x.check(w));
        }
        seen.add((long) x.unlike(-1));
        seen.add((long) x.unlike(2));
        seen.add((long) x.greatest());
        seen.add((long) x.one(255));
        seen.add((long) x.plan(0));
        seen.add((long) x.plan(1));
        return seen.stream().mapToLong(l -> l).toArray();
    }

    private static void imageOfWhatWasOverwritten() {
        ParishUnion x = new ParishUnion();
        x.person(0, -100, 1, -1, 2);
        x.person(0, -1000, 2, -1, 0);
        Due.act(x, "fear 0", 0);
        x.house(4, 100);
        x.week(1);
        set(x, 7, "give 7 s=0");
        x.bind(0, 1);
        int order = x.order(0, 5);
        int may = x.hire(1, 3, 60, 0, false, false);
        x.image();
        x.run(0);
        x.carry(x.order(0, 4));
        x.text(0);
        x.proof(may, false);
        set(x, 3, "diet 3");
        x.week(2);
        Due.due("undo", x.undo(), 1);
        Due.due("the order", order, STATE);
        Due.due("rents", x.parish(4, 0), 7);
        Due.due("beds", x.house(2, 0), 7);
        Due.due("price", x.price(0), 7);
        Due.due("frost", x.frost(9, 0), 7);
        Due.due("room", x.master(1, 9), 7);
        Due.due("told", x.told(1, 0), 7);
        Due.due("bound", x.about(0, 9), 1);
        Due.due("may", x.right(may, 5), 0);
        Due.due("in the house from 2", x.about(1, 10), 2);
        Due.due("in ward 0", x.about(1, 8), 0);
        Due.due("the store", x.count(12), 80);
        Due.due("the tape", x.text(1), 1);
        Due.due("the tape as it was", x.offer(1, 0), 7);
        Due.feed(x, "give 7 f>6;fear 99");
        Due.due("the row as it was", x.tried(2, 2), 0);
        x.run(0);
        Due.feed(x, "give 7 f>6;fear 99");
        Due.due("the row as it was, 7 times for who ran", x.tried(2, 2), 49);
    }

    /** Most of what has one place alone is n, or bears n. */
    private static void set(ParishUnion x, int n, String text) {
        x.parish(4, n);
        x.house(2, n);
        x.price(n);
        x.frost(9, n);
        x.master(1, n);
        x.told(1, n);
        x.frosts(2, 1111111111L * n / (n == 7 ? 1000 : 1), n == 7 ? 7 : 10);
        Due.feed(x, text);
    }

    /** Who comes in the place of one that was undone is new. */
    private static void personsBehindUndo() {
        ParishUnion x = new ParishUnion();
        x.image();
        x.person(0, -1000, 1, -1, 0);
        x.frost(0, 9);
        Due.act(x, "fear 0", 0);
        x.house(0, 1);
        x.house(4, 5);
        x.told(0, 4);
        x.week(3);
        Due.due("ill", x.about(0, 7) > 0 ? 1 : x.about(0, 6) > 0 ? 1 : 0, 1);
        x.undo();
        Due.due("nobody", x.about(0, 0), NONE);
        x.person(1, -500, 2, -1, 3);
        int[] due = {1, -500, 2, -1, 3, 2, 0, 0, -1, -1, -1};
        for (int what = 0; what < 11; what++) {
            Due.due("about " + what, x.about(0, what), due[what]);
        }
        Due.due("told", x.told(0, 1), 0);
        x.hire(0, 3, 60, 0, false, false);
        x.proof(0, true);
        x.undo();
        x.person(1, -500, 2, -1, 3);
        x.hire(0, 4, 60, 0, false, false);
        Due.due("not proved yet", x.right(0, 5), 0);
        x.carry(x.order(0, 3));
        x.undo();
        x.person(1, -500, 2, -1, 3);
        x.order(0, 4);
        Due.due("not carried yet", x.carry(0), 4);
    }

    private static void counts() {
        ParishUnion x = new ParishUnion();
        Due.due("count none", x.count(14), NONE);
        Due.due("count none", x.count(-1), NONE);
        x.person(0, -1000, 1, -1, 0);
        x.person(0, -100, 1, -1, 0);
        x.person(0, -100, 1, -1, 0);
        x.hire(0, 1, 1, 0, false, false);
        x.proof(0, true);
        Due.act(x, "fear 0;ward 3 a<14", 0);
        x.order(0, 2);
        x.house(3, 1);
        x.house(4, 500);
        x.price(9);
        x.week(1);
        Due.feed(x, "abc");
        x.night(1, 1, 1);
        x.choice(1, 1, 1);
        x.master(0, 2);
        x.bind(2, 0);
        int[] due = {3, 1, 2, 1, 1, 1, 3, 1, 0, 1, 1, 1, 490, 9};
        for (int what = 0; what < 14; what++) {
            Due.due("count " + what, x.count(what), due[what]);
        }
        Due.act(x, "fear 99", 1);
        x.week(20);
        Due.due("dead", x.count(8), 1);
        Due.due("a new text behind others", x.count(3), 1);
        Due.due("the tape was no act", x.count(6), 0);
    }
}
