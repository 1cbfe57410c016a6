/** Promises 19 to 22: orders of removal. */
public final class OrdersTest {
    private static final int NONE = -1, BAD = -2, STATE = -3, FULL = -4;

    private OrdersTest() {
    }

    public static void main(String[] args) {
        refusals();
        full();
        benches();
        weeks();
        carried();
        Due.end();
    }

    private static void refusals() {
        ParishUnion x = new ParishUnion();
        x.person(0, -100, 1, -1, 5);
        Due.due("order none", x.order(1, 0), NONE);
        Due.due("order none", x.order(-1, 0), NONE);
        Due.due("order none", x.order(0, 6), NONE);
        Due.due("order none", x.order(0, -1), NONE);
        Due.due("order bad", x.order(0, 1), BAD);
        x.master(0, 1);
        x.bind(0, 0);
        Due.due("order of a bound one", x.order(0, 1), STATE);
        Due.due("order of a bound one, no parish", x.order(0, 7), NONE);
        x.run(0);
        Due.due("orders", x.count(4), 0);
        Due.due("order", x.order(0, 2), 0);
        Due.due("appeal none", x.appeal(1, 0, -1), NONE);
        Due.due("appeal none", x.appeal(-1, 0, -1), NONE);
        Due.due("appeal none", x.appeal(0, 2, -1), NONE);
        Due.due("appeal none", x.appeal(0, -1, -1), NONE);
        Due.due("appeal none", x.appeal(0, 0, 1), NONE);
        Due.due("appeal none", x.appeal(0, 0, -2), NONE);
        Due.due("unlike none", x.unlike(1), NONE);
        Due.due("unlike none", x.unlike(-2), NONE);
        Due.due("carry none", x.carry(1), NONE);
        Due.due("carry none", x.carry(-1), NONE);
    }

    private static void full() {
        ParishUnion x = new ParishUnion();
        x.person(0, -1000, 1, -1, 5);
        x.person(0, -100, 1, -1, 5);
        x.master(0, 1);
        x.bind(1, 0);
        x.hire(0, 2, 50, 0, false, false);
        for (int i = 0; i < 20; i++) {
            Due.due("order", x.order(0, 2), i);
        }
        Due.due("order full", x.order(0, 2), FULL);
        Due.due("bad ahead of full", x.order(0, 1), BAD);
        Due.due("state ahead of full", x.order(1, 1), STATE);
        Due.due("orders", x.count(4), 20);
        Due.due("all stand by one bench alone", x.unlike(-1), (1 << 20) - 1);
        Due.due("none by no entry", x.unlike(0), 0);
    }

    private static void benches() {
        ParishUnion x = new ParishUnion();
        x.person(0, -1000, 1, -1, 5);
        x.hire(0, 2, 50, -10, false, true);
        x.hire(0, 3, 50, -9, false, false);
        x.order(0, 2);
        x.order(0, 3);
        x.order(0, 4);
        Due.due("appeal", x.appeal(0, 0, -1), 1);
        Due.due("appeal", x.appeal(0, 1, -1), 0);
        Due.due("appeal", x.appeal(1, 0, -1), 0);
        Due.due("appeal", x.appeal(1, 1, -1), 1);
        Due.due("appeal", x.appeal(2, 0, -1), 0);
        Due.due("appeal", x.appeal(2, 1, -1), 0);
        Due.due("appeal by 1", x.appeal(0, 1, 1), 1);
        Due.due("appeal by 0", x.appeal(0, 0, 0), 0);
        Due.due("unlike", x.unlike(-1), 3);
        Due.due("unlike by 1", x.unlike(1), 0);
        x.proof(1, true);
        Due.due("unlike behind a proof", x.unlike(-1), 0);
        Due.due("unlike ahead of it", x.unlike(2), 3);
    }

    private static void weeks() {
        ParishUnion x = new ParishUnion();
        x.person(0, -1000, 1, -1, 9);
        x.order(0, 2);
        x.week(3);
        x.order(0, 2);
        x.hire(0, 2, 50, 2, false, true);
        Due.due("as of the order's week", x.appeal(0, 0, -1), 0);
        Due.due("as of the order's week", x.appeal(1, 0, -1), 1);
    }

    private static void carried() {
        ParishUnion x = new ParishUnion();
        x.person(0, -1000, 1, -1, 9);
        x.order(0, 2);
        x.order(0, 3);
        Due.due("carry", x.carry(0), 2);
        Due.due("it went", x.about(0, 5), 2);
        Due.due("carried already", x.carry(0), STATE);
        Due.due("elsewhere", x.carry(1), STATE);
        x.order(0, 1);
        Due.due("back", x.carry(2), 1);
        Due.due("carried already, though it is there again", x.carry(0), STATE);
        Due.due("there again", x.carry(1), 3);
        Due.due("it went", x.about(0, 5), 3);
    }
}
