/** Promises 1 to 6: a new object, parishes, roads, persons. */
public final class ParishesTest {
    private static final int NONE = -1, BAD = -2, FULL = -4;

    private ParishesTest() {
    }

    public static void main(String[] args) {
        newObject();
        parishes();
        roads();
        persons();
        personsFull();
        about();
        Due.end();
    }

    private static void newObject() {
        ParishUnion x = new ParishUnion();
        for (int what = 0; what <= 13; what++) {
            Due.due("new: count " + what, x.count(what), what == 13 ? 1 : 0);
        }
        for (int p = 0; p < 6; p++) {
            Due.due("new: rents", x.parish(p, 0), 100);
            for (int q = 0; q < 6; q++) {
                Due.due("new: far", x.far(p, q), p == q ? 0 : 99);
            }
        }
        for (int w = 0; w < 4; w++) {
            Due.due("new: beds", x.house(w, 0), 2);
            Due.due("new: room", x.master(w, 0), 0);
        }
        Due.due("new: store", x.house(4, 0), 0);
        Due.due("new: nobody", x.about(0, 0), NONE);
        Due.due("new: no image", x.undo(), -3);
        Due.due("new: greatest", x.greatest(), 0);
    }

    private static void parishes() {
        ParishUnion x = new ParishUnion();
        Due.due("parish none", x.parish(6, 5), NONE);
        Due.due("parish none", x.parish(-1, 5), NONE);
        Due.due("parish none ahead of bad", x.parish(6, -5), NONE);
        Due.due("parish bad", x.parish(0, -1), BAD);
        Due.due("parish bad", x.parish(0, 10000), BAD);
        Due.due("parish", x.parish(5, 9999), 100);
        Due.due("parish", x.parish(5, 0), 9999);
        Due.due("parish", x.parish(5, 1), 0);
        Due.due("parish of another one", x.parish(4, 1), 100);
    }

    private static void roads() {
        ParishUnion x = new ParishUnion();
        Due.due("road none", x.road(6, 0, 1), NONE);
        Due.due("road none", x.road(0, -1, 1), NONE);
        Due.due("road none ahead of bad", x.road(6, 6, 0), NONE);
        Due.due("road bad: one parish", x.road(3, 3, 1), BAD);
        Due.due("road bad", x.road(0, 1, 0), BAD);
        Due.due("road bad", x.road(0, 1, 10), BAD);
        Due.due("far none", x.far(6, 0), NONE);
        Due.due("far none", x.far(0, -1), NONE);
        Due.due("road", x.road(0, 1, 9), 1);
        Due.due("road again", x.road(1, 0, 9), 0);
        Due.due("far", x.far(0, 1), 9);
        Due.due("far back", x.far(1, 0), 9);
        Due.due("a longer road counts not", x.road(0, 2, 4), 1);
        Due.due("road", x.road(2, 1, 4), 1);
        Due.due("the way over 2 is shorter", x.far(0, 1), 8);
        Due.due("a road that shortens nothing", x.road(0, 1, 8), 0);
        Due.due("a shorter road", x.road(0, 1, 1), 1);
        Due.due("far", x.far(1, 0), 1);
        Due.due("far", x.far(2, 0), 4);
        Due.due("the longer of two roads", x.road(0, 1, 7), 0);
        Due.due("far stays", x.far(0, 1), 1);
        Due.due("far unled", x.far(1, 5), 99);
        Due.due("a road of others", x.road(3, 4, 9), 1);
        Due.due("a road of others", x.road(4, 5, 9), 1);
        Due.due("far", x.far(3, 5), 18);
        Due.due("two parts meet", x.road(2, 3, 9), 1);
        Due.due("far over all", x.far(5, 1), 9 + 9 + 9 + 4);
        Due.due("far itself", x.far(5, 5), 0);
    }

    private static void persons() {
        ParishUnion x = new ParishUnion();
        Due.due("person none: parish", x.person(0, 0, 6, -1, 0), NONE);
        Due.due("person none: father", x.person(0, 0, 0, 0, 0), NONE);
        Due.due("person none: father -2", x.person(0, 0, 0, -2, 0), NONE);
        Due.due("person none ahead of bad", x.person(2, 1, -1, -1, 10), NONE);
        Due.due("person bad: sex", x.person(2, 0, 0, -1, 0), BAD);
        Due.due("person bad: sex", x.person(-1, 0, 0, -1, 0), BAD);
        Due.due("person bad: born behind NOW", x.person(0, 1, 0, -1, 0), BAD);
        Due.due("person bad: born", x.person(0, -3001, 0, -1, 0), BAD);
        Due.due("person bad: strength", x.person(0, 0, 0, -1, 10), BAD);
        Due.due("person bad: strength", x.person(0, 0, 0, -1, -1), BAD);
        Due.due("nobody came", x.count(0), 0);
        Due.due("person", x.person(0, -3000, 0, -1, 0), 0);
        Due.due("person", x.person(1, 0, 5, -1, 9), 1);
        Due.due("person bad: father born in one week", x.person(0, -3000, 0, 0, 0), BAD);
        Due.due("person: father born a week ahead", x.person(0, -2999, 0, 0, 0), 2);
        Due.due("person bad: father a woman", x.person(0, 0, 0, 1, 0), BAD);
        Due.due("person bad: father born behind", x.person(0, -3000, 0, 2, 0), BAD);
        Due.due("persons", x.count(0), 3);
        x.week(3);
        Due.due("person born NOW", x.person(1, 3, 1, -1, 4), 3);
        Due.due("person bad: born behind NOW", x.person(1, 4, 1, -1, 4), BAD);
    }

    private static void personsFull() {
        ParishUnion x = new ParishUnion();
        for (int i = 0; i < 16; i++) {
            Due.due("person", x.person(0, -i, 0, -1, 0), i);
        }
        Due.due("person full", x.person(0, 0, 0, -1, 0), FULL);
        Due.due("bad ahead of full", x.person(2, 0, 0, -1, 0), BAD);
        Due.due("none ahead of full", x.person(0, 0, 0, 16, 0), NONE);
        Due.due("persons", x.count(0), 16);
    }

    private static void about() {
        ParishUnion x = new ParishUnion();
        x.person(0, -1000, 2, -1, 3);
        x.person(1, -500, 4, 0, 7);
        int[] first = {0, -1000, 2, -1, 3, 2, 0, 0, -1, -1, -1};
        int[] second = {1, -500, 4, 0, 7, 4, 0, 0, -1, -1, -1};
        for (int what = 0; what <= 10; what++) {
            Due.due("about 0, " + what, x.about(0, what), first[what]);
            Due.due("about 1, " + what, x.about(1, what), second[what]);
        }
        Due.due("about none", x.about(0, 11), NONE);
        Due.due("about none", x.about(0, -1), NONE);
        Due.due("about none", x.about(2, 0), NONE);
        Due.due("about none", x.about(-1, 0), NONE);
        x.master(3, 1);
        x.bind(1, 3);
        Due.due("about bound", x.about(1, 5), 7);
        Due.due("about bound", x.about(1, 9), 3);
        Due.due("about bound", x.about(1, 8), NONE);
        Due.act(x, "fear 0;ward 2 o", 0);
        x.house(4, 100);
        x.frost(0, 9);
        x.week(1);
        Due.due("about: in the house", x.about(0, 5), 6);
        Due.due("about: hunger 0 + 1 + 3 - 0 - 3", x.about(0, 6), 1);
        Due.due("about: 1 of 2 beds is not more than half", x.about(0, 7), 0);
        Due.due("about: ward", x.about(0, 8), 2);
        Due.due("about: from", x.about(0, 10), 2);
        Due.due("about: master", x.about(0, 9), NONE);
    }
}
