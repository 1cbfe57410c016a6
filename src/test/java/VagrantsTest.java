/** Promises 33 to 38: nights of vagrants, children bound out. */
public final class VagrantsTest {
    private static final int NONE = -1, BAD = -2, STATE = -3, FULL = -4;

    private VagrantsTest() {
    }

    public static void main(String[] args) {
        refusals();
        full();
        one();
        greatest();
        masters();
        bind();
        run();
        Due.end();
    }

    private static void refusals() {
        ParishUnion x = new ParishUnion();
        Due.due("night none", x.night(0, 6, 0), NONE);
        Due.due("night none ahead of bad", x.night(8, -1, 0), NONE);
        Due.due("night bad: name", x.night(8, 0, 0), BAD);
        Due.due("night bad: name", x.night(-1, 0, 0), BAD);
        Due.due("night bad: week", x.night(0, 0, 301), BAD);
        Due.due("night bad: week", x.night(0, 0, -1), BAD);
        Due.due("night", x.night(0, 0, 300), 1);
        Due.due("night", x.night(7, 5, 0), 2);
        Due.due("nights", x.count(10), 2);
        Due.due("one bad", x.one(256), BAD);
        Due.due("one bad", x.one(-1), BAD);
        Due.due("one without nights", x.one(2), 1);
        Due.due("one with one night", x.one(1), 1);
    }

    private static void full() {
        ParishUnion x = new ParishUnion();
        for (int i = 1; i <= 40; i++) {
            Due.due("night", x.night(i % 8, 0, 300 - i), i);
        }
        Due.due("night full", x.night(0, 0, 0), FULL);
        Due.due("bad ahead of full", x.night(8, 0, 0), BAD);
        Due.due("nights", x.count(10), 40);
        Due.due("all in one parish", x.one(255), 1);
        Due.due("greatest", x.greatest(), 255);
    }

    private static void one() {
        ParishUnion x = new ParishUnion();
        x.road(0, 1, 3);
        // Told out of order.
        x.night(1, 1, 9);
        x.night(0, 0, 6);
        Due.due("3 weeks later", x.one(3), 1);
        x.night(0, 0, 11);
        Due.due("2 weeks later", x.one(3), 0);
        Due.due("the first alone", x.one(1), 1);
        x.road(0, 1, 2);
        Due.due("the road is shorter", x.one(3), 1);
        x.night(2, 0, 6);
        Due.due("one week, one parish", x.one(5), 1);
        x.night(3, 1, 6);
        Due.due("one week, two parishes", x.one(9), 0);
        x.night(4, 5, 150);
        Due.due("no way leads there, ever", x.one(1 | 16), 0);
        Due.due("names without nights change nothing", x.one(5 | 128), 1);
        ParishUnion y = new ParishUnion();
        y.night(0, 0, 0);
        y.night(0, 1, 300);
        Due.due("one name that can't be one", y.one(1), 0);
    }

    private static void greatest() {
        ParishUnion x = new ParishUnion();
        x.night(3, 0, 5);
        Due.due("one name alone", x.greatest(), 0);
        x.night(5, 1, 6);
        Due.due("no two", x.greatest(), 0);
        x.road(0, 1, 1);
        Due.due("two", x.greatest(), 8 | 32);
        x.night(0, 2, 7);
        x.night(6, 0, 5);
        Due.due("three", x.greatest(), 8 | 32 | 64);
        x.night(1, 3, 1);
        x.night(2, 3, 2);
        x.night(4, 3, 3);
        Due.due("of several the least as bits", x.greatest(), 2 | 4 | 16);
        x.night(4, 4, 4);
        Due.due("but that it can't be", x.greatest(), 8 | 32 | 64);
    }

    private static void masters() {
        ParishUnion x = new ParishUnion();
        x.person(0, -100, 1, -1, 5);
        Due.due("master none", x.master(4, 0), NONE);
        Due.due("master none", x.master(-1, 10), NONE);
        Due.due("master bad", x.master(0, 10), BAD);
        Due.due("master bad", x.master(0, -1), BAD);
        Due.due("master", x.master(0, 9), 0);
        Due.due("master", x.master(0, 2), 9);
        x.bind(0, 0);
        Due.due("less than it has", x.master(0, 0), BAD);
        Due.due("as many as it has", x.master(0, 1), 2);
        Due.due("another one", x.master(3, 1), 0);
        x.run(0);
        Due.due("none", x.master(0, 0), 1);
    }

    private static void bind() {
        ParishUnion x = new ParishUnion();
        x.person(0, -699, 1, -1, 0);
        x.person(1, -700, 1, -1, 0);
        x.person(1, -100, 2, -1, 0);
        x.person(1, -100, 3, -1, 0);
        Due.due("bind none", x.bind(4, 0), NONE);
        Due.due("bind none", x.bind(-1, 0), NONE);
        Due.due("bind none", x.bind(0, 4), NONE);
        Due.due("bind none", x.bind(0, -1), NONE);
        Due.due("no room", x.bind(0, 1), STATE);
        x.master(1, 2);
        Due.due("age 14", x.bind(1, 1), STATE);
        Due.due("age 13", x.bind(0, 1), 1);
        Due.due("at 7", x.about(0, 5), 7);
        Due.due("its master", x.about(0, 9), 1);
        Due.due("bound", x.count(9), 1);
        Due.due("bound already", x.bind(0, 1), STATE);
        Due.act(x, "fear 0", 0);
        x.house(4, 100);
        x.week(1);
        Due.due("in the house", x.about(2, 5), 6);
        Due.due("out of the house", x.bind(2, 1), 2);
        Due.due("no ward", x.about(2, 8), NONE);
        Due.due("asked from no place", x.about(2, 10), NONE);
        Due.due("in the house", x.count(7), 1);
        Due.due("no room", x.bind(3, 1), STATE);
        x.master(2, 1);
        Due.due("another master", x.bind(3, 2), 1);
        ParishUnion y = new ParishUnion();
        y.person(0, -699, 1, -1, 0);
        y.master(0, 1);
        y.week(1);
        Due.due("14 now", y.bind(0, 0), STATE);
        Due.act(y, "bind 15", 1);
        Due.due("by another law", y.bind(0, 0), 1);
        ParishUnion z = new ParishUnion();
        z.person(0, -100, 1, -1, 0);
        z.master(0, 1);
        Due.act(z, "fear 99", 0);
        z.week(20);
        Due.due("dead", z.about(0, 5), 8);
        Due.due("dead", z.bind(0, 0), STATE);
    }

    private static void run() {
        ParishUnion x = new ParishUnion();
        x.person(0, -100, 1, -1, 0);
        x.person(0, -100, 2, -1, 0);
        x.carry(x.order(0, 4));
        Due.due("run none", x.run(2), NONE);
        Due.due("run none", x.run(-1), NONE);
        Due.due("not bound", x.run(0), STATE);
        x.master(0, 1);
        x.bind(0, 0);
        Due.due("no room", x.bind(1, 0), STATE);
        Due.due("run", x.run(0), 1);
        Due.due("to the parish of its birth", x.about(0, 5), 1);
        Due.due("no master", x.about(0, 9), NONE);
        Due.due("not bound", x.run(0), STATE);
        Due.due("room again", x.bind(1, 0), 1);
    }
}
