/** Promises 7 to 14: rights, proofs, whose a person is. */
public final class RightsTest {
    private static final int NONE = -1, BAD = -2, STATE = -3, FULL = -4, NOBODY = -5;

    private RightsTest() {
    }

    public static void main(String[] args) {
        refusals();
        fullRights();
        fullEntries();
        proofs();
        asked();
        taken();
        hirings();
        ratings();
        weddings();
        kin();
        byEntries();
        order();
        maybe();
        firstTen();
        bestProof();
        Due.end();
    }

    /** A man of parish 1 and a woman of parish 2. */
    private static ParishUnion pair() {
        ParishUnion x = new ParishUnion();
        x.person(0, -1000, 1, -1, 5);
        x.person(1, -900, 2, -1, 5);
        return x;
    }

    private static void refusals() {
        ParishUnion x = pair();
        Due.due("hire none: person", x.hire(2, 0, 50, 0, false, true), NONE);
        Due.due("hire none: parish", x.hire(0, 6, 50, 0, false, true), NONE);
        Due.due("hire none ahead of bad", x.hire(0, -1, 0, 1, false, true), NONE);
        Due.due("hire bad: n", x.hire(0, 0, 0, 0, false, true), BAD);
        Due.due("hire bad: n", x.hire(0, 0, 201, 0, true, true), BAD);
        Due.due("hire bad: week", x.hire(0, 0, 1, 1, false, true), BAD);
        Due.due("hire bad: week", x.hire(0, 0, 1, -3001, false, true), BAD);
        Due.due("rated none: person", x.rated(-1, 0, 50, 0, true), NONE);
        Due.due("rated none: parish", x.rated(0, 6, 50, 0, true), NONE);
        Due.due("rated bad: n", x.rated(0, 0, 0, 0, true), BAD);
        Due.due("rated bad: n", x.rated(0, 0, 10000, 0, true), BAD);
        Due.due("rated bad: week", x.rated(0, 0, 1, 1, true), BAD);
        Due.due("wed none", x.wed(2, 0, 0, true), NONE);
        Due.due("wed none", x.wed(1, 2, 0, true), NONE);
        Due.due("wed none ahead of bad", x.wed(0, -1, 9, true), NONE);
        Due.due("wed bad: no woman", x.wed(0, 0, 0, true), BAD);
        Due.due("wed bad: no man", x.wed(1, 1, 0, true), BAD);
        Due.due("wed bad: week", x.wed(1, 0, 1, true), BAD);
        Due.due("wed bad: week", x.wed(1, 0, -3001, true), BAD);
        Due.due("nothing told", x.count(1) + x.count(2), 0);
        Due.due("hire", x.hire(0, 0, 1, -3000, false, true), 0);
        Due.due("hire", x.hire(0, 0, 200, 0, true, false), 1);
        Due.due("rated", x.rated(1, 5, 1, -3000, false), 2);
        Due.due("rated", x.rated(1, 5, 9999, 0, false), 3);
        Due.due("wed", x.wed(1, 0, -3000, false), 4);
        Due.due("rights", x.count(1), 5);
        Due.due("entries", x.count(2), 5);
    }

    private static void fullRights() {
        ParishUnion x = pair();
        for (int i = 0; i < 40; i++) {
            Due.due("hire", x.hire(0, 0, 10, 0, false, false), i);
        }
        Due.due("hire full", x.hire(0, 0, 10, 0, false, false), FULL);
        Due.due("rated full", x.rated(0, 0, 10, 0, false), FULL);
        Due.due("wed full", x.wed(1, 0, 0, false), FULL);
        Due.due("bad ahead of full", x.wed(1, 1, 0, false), BAD);
        for (int i = 0; i < 40; i++) {
            Due.due("proof", x.proof(i, i % 2 == 0), 41 + i);
        }
        Due.due("state ahead of full", x.proof(0, true), STATE);
        Due.due("rights", x.count(1), 40);
        Due.due("entries", x.count(2), 80);
    }

    /** ENTRIES can't be full with fewer than 40 RIGHTS: each has two at most. */
    private static void fullEntries() {
        ParishUnion x = pair();
        for (int i = 0; i < 39; i++) {
            x.hire(0, 0, 10, 0, false, false);
            x.proof(i, false);
        }
        Due.due("entries", x.count(2), 78);
        Due.due("hire", x.hire(0, 0, 10, 0, false, false), 39);
        Due.due("proof", x.proof(39, true), 80);
    }

    private static void proofs() {
        ParishUnion x = pair();
        Due.due("proof none", x.proof(0, true), NONE);
        x.hire(0, 3, 50, -10, false, true);
        x.hire(0, 4, 50, -9, false, false);
        x.hire(0, 5, 50, -8, false, false);
        Due.due("proof none", x.proof(3, true), NONE);
        Due.due("proof none", x.proof(-1, true), NONE);
        Due.due("proof of a sure one", x.proof(0, true), STATE);
        Due.due("may", x.right(1, 5), 0);
        Due.due("proved", x.proof(1, true), 4);
        Due.due("proved", x.right(1, 5), 1);
        Due.due("settle by bench 0", x.settle(0, 0, 0, -1), 4);
        Due.due("proof again", x.proof(1, true), STATE);
        Due.due("disproof of a proved one", x.proof(1, false), STATE);
        Due.due("disproved", x.proof(2, false), 5);
        Due.due("disproved", x.right(2, 5), 2);
        Due.due("proof of a disproved one", x.proof(2, true), STATE);
        Due.due("settle by bench 1", x.settle(0, 1, 0, -1), 4);
        Due.due("sure", x.right(0, 5), 1);
        Due.due("disproof of a sure one", x.proof(0, false), 6);
        Due.due("disproved", x.right(0, 5), 2);
        Due.due("disproof again", x.proof(0, false), STATE);
    }

    private static void asked() {
        ParishUnion x = pair();
        x.hire(0, 3, 60, -10, true, false);
        x.rated(1, 4, 150, -20, true);
        x.wed(1, 0, -30, false);
        x.hire(1, 5, 70, -40, false, true);
        int[][] due = {{4, 0, 3, 60, -10, 0}, {2, 1, 4, 150, -20, 1}, {3, 1, 0, 0, -30, 0}, {1, 1, 5, 70, -40, 1}};
        for (int r = 0; r < due.length; r++) {
            for (int what = 0; what <= 5; what++) {
                Due.due("right " + r + ", " + what, x.right(r, what), due[r][what]);
            }
        }
        Due.due("right none", x.right(4, 0), NONE);
        Due.due("right none", x.right(-1, 0), NONE);
        Due.due("right none", x.right(0, 6), NONE);
        Due.due("right none", x.right(0, -1), NONE);
    }

    private static void taken() {
        ParishUnion x = pair();
        x.hire(0, 3, 60, -10, false, false);
        x.rated(1, 4, 150, -20, true);
        x.wed(1, 0, -30, false);
        x.hire(1, 5, 70, -40, true, true);
        int[][] due = {{60, 60, -6, -6, -6}, {150, -6, 150, -6, -6}, {0, -6, -6, 0, -6}, {140, 140, -6, -6, 140}};
        for (int r = 0; r < due.length; r++) {
            for (int k = 0; k <= 4; k++) {
                Due.due("taken " + r + ", " + k, x.taken(r, k), due[r][k]);
            }
        }
        Due.due("taken none", x.taken(4, 0), NONE);
        Due.due("taken none", x.taken(-1, 0), NONE);
        Due.due("taken none", x.taken(0, 5), NONE);
        Due.due("taken none", x.taken(0, -1), NONE);
    }

    private static void hirings() {
        ParishUnion x = pair();
        Due.due("settle none: person", x.settle(2, 0, 0, -1), NONE);
        Due.due("settle none: bench", x.settle(0, 2, 0, -1), NONE);
        Due.due("settle none: bench", x.settle(0, -1, 0, -1), NONE);
        Due.due("settle none: e", x.settle(0, 0, 0, 1), NONE);
        Due.due("settle none: e", x.settle(0, 0, 0, -2), NONE);
        Due.due("settle none ahead of bad", x.settle(0, 0, 301, 1), NONE);
        Due.due("settle bad", x.settle(0, 0, 301, -1), BAD);
        Due.due("settle bad", x.settle(0, 0, -3001, -1), BAD);
        Due.due("settle by birth", x.settle(0, 0, 300, -1), 1);
        Due.due("settle ahead of birth", x.settle(0, 0, -1001, -1), NOBODY);
        Due.due("settle at birth", x.settle(0, 0, -1000, -1), 1);
        Due.due("settle, the first week", x.settle(0, 0, -3000, -1), NOBODY);
        x.hire(0, 3, 49, -100, false, true);
        Due.due("49 weeks", x.settle(0, 0, 0, -1), 1);
        x.hire(0, 4, 50, -90, false, true);
        Due.due("50 weeks", x.settle(0, 0, 0, -1), 4);
        Due.due("50 weeks, a week ahead", x.settle(0, 0, -91, -1), 1);
        Due.due("50 weeks, in that week", x.settle(0, 0, -90, -1), 4);
        x.hire(0, 5, 24, -80, true, true);
        Due.due("24 weeks twice", x.settle(0, 0, 0, -1), 4);
        x.hire(0, 5, 25, -70, true, true);
        Due.due("25 weeks twice", x.settle(0, 0, 0, -1), 5);
        x.hire(0, 2, 60, -60, false, false);
        Due.due("a may by bench 0", x.settle(0, 0, 0, -1), 5);
        Due.due("a may by bench 1", x.settle(0, 1, 0, -1), 2);
        x.week(5);
        x.hire(0, 0, 60, 4, false, true);
        Due.act(x, "hired 61", 4);
        Due.due("the law of its week", x.settle(0, 0, 5, -1), 5);
        x.hire(0, 0, 60, 3, false, true);
        Due.due("the law of its week", x.settle(0, 0, 5, -1), 0);
    }

    private static void ratings() {
        ParishUnion x = pair();
        x.rated(0, 3, 99, -10, true);
        Due.due("99 pence", x.settle(0, 0, 0, -1), 1);
        x.rated(0, 4, 100, -10, true);
        Due.due("100 pence", x.settle(0, 0, 0, -1), 4);
        Due.act(x, "rated 101", 0);
        Due.due("101 pence, by the law of week 0", x.settle(0, 0, 0, -1), 1);
        Due.act(x, "rated 1", 1);
        Due.due("the law of week 1 counts not", x.settle(0, 0, 9, -1), 1);
    }

    private static void weddings() {
        ParishUnion x = pair();
        x.hire(0, 3, 50, -100, false, true);
        x.hire(0, 4, 50, -50, false, false);
        x.wed(1, 0, -60, true);
        Due.due("wed: his as of that week", x.settle(1, 1, 0, -1), 3);
        x.wed(1, 0, -50, true);
        Due.due("wed: his as of that week, bench 0", x.settle(1, 0, 0, -1), 3);
        Due.due("wed: his as of that week, bench 1", x.settle(1, 1, 0, -1), 4);
        Due.due("ahead of it", x.settle(1, 1, -61, -1), 2);
        x.rated(1, 5, 100, -40, true);
        Due.due("her own later", x.settle(1, 1, 0, -1), 5);
        x.wed(1, 0, -1001, false);
        Due.due("wed ahead of his birth, others later", x.settle(1, 1, 0, -1), 5);
        Due.act(x, "wed n", 0);
        Due.due("wed n", x.settle(1, 1, -45, -1), 2);
        ParishUnion y = pair();
        y.wed(1, 0, -1001, true);
        Due.due("wed to one who is nobody's", y.settle(1, 1, 0, -1), NOBODY);
        Due.due("wed to one who is nobody's", y.maybe(1, 0, -1, 0), 0);
        Due.due("wed to one who is nobody's", y.maybe(1, 0, -1, 1), NOBODY);
    }

    private static void kin() {
        ParishUnion x = new ParishUnion();
        x.person(0, -2000, 1, -1, 5);
        x.person(0, -1000, 2, 0, 5);
        x.person(1, -500, 3, 1, 5);
        x.hire(0, 4, 50, -1500, false, true);
        x.hire(0, 5, 50, -700, false, true);
        Due.due("kin: his as of her father's birth", x.settle(2, 0, 0, -1), 4);
        x.hire(1, 0, 50, -499, false, true);
        Due.due("her father's later", x.settle(2, 0, 0, -1), 4);
        x.hire(1, 0, 50, -500, false, true);
        Due.due("her father's in the week of birth", x.settle(2, 0, 0, -1), 0);
        Due.act(x, "kin n", 1);
        Due.due("kin n from week 1 on", x.settle(2, 0, 9, -1), 0);
        Due.act(x, "kin n", 0);
        Due.due("kin n from week 0 on", x.settle(2, 0, 9, -1), 3);
    }

    private static void byEntries() {
        ParishUnion x = pair();
        x.hire(0, 3, 50, -100, false, false);
        x.hire(0, 4, 50, -90, false, true);
        x.proof(0, true);
        x.proof(1, false);
        int[] bench0 = {1, 1, 4, 4, 3};
        int[] bench1 = {1, 3, 4, 4, 3};
        for (int e = 0; e <= 4; e++) {
            Due.due("settle by " + e, x.settle(0, 0, 0, e), bench0[e]);
            Due.due("settle by " + e, x.settle(0, 1, 0, e), bench1[e]);
        }
        Due.due("settle by all", x.settle(0, 0, 0, -1), 3);
        Due.due("settle none: e", x.settle(0, 0, 0, 5), NONE);
        Due.due("maybe by 1", x.maybe(0, 0, 1, 0), 1 << 1 | 1 << 3);
        Due.due("maybe by 3", x.maybe(0, 0, 3, 0), 1 << 4);
    }

    /** By WEEKS, of one WEEK as told. */
    private static void order() {
        ParishUnion x = pair();
        x.hire(0, 5, 50, -10, false, true);
        x.hire(0, 4, 50, -20, false, true);
        Due.due("the later week", x.settle(0, 0, 0, -1), 5);
        x.rated(0, 3, 100, -10, true);
        Due.due("of one week the later told", x.settle(0, 0, 0, -1), 3);
        x.hire(0, 2, 50, -10, false, false);
        Due.due("of one week the later told that is so", x.settle(0, 0, 0, -1), 3);
        Due.due("of one week the later told", x.settle(0, 1, 0, -1), 2);
    }

    private static void maybe() {
        ParishUnion x = pair();
        Due.due("maybe none: person", x.maybe(2, 0, -1, 0), NONE);
        Due.due("maybe none: e", x.maybe(0, 0, 1, 0), NONE);
        Due.due("maybe none: what", x.maybe(0, 0, -1, 2), NONE);
        Due.due("maybe none: what", x.maybe(0, 0, -1, -1), NONE);
        Due.due("maybe none ahead of bad", x.maybe(0, 301, -1, 2), NONE);
        Due.due("maybe bad", x.maybe(0, 301, -1, 0), BAD);
        Due.due("maybe bad", x.maybe(0, -3001, -1, 1), BAD);
        Due.due("maybe", x.maybe(0, 0, -1, 0), 1 << 1);
        Due.due("no proof", x.maybe(0, 0, -1, 1), NOBODY);
        Due.due("ahead of birth", x.maybe(0, -1001, -1, 0), 0);
        Due.due("ahead of birth", x.maybe(0, -1001, -1, 1), NOBODY);
        x.hire(0, 3, 50, -100, false, false);
        x.wed(1, 0, -50, false);
        Due.due("maybe of him", x.maybe(0, 0, -1, 0), 1 << 1 | 1 << 3);
        Due.due("maybe of her", x.maybe(1, 0, -1, 0), 1 << 1 | 1 << 2 | 1 << 3);
        Due.due("maybe of her, ahead", x.maybe(1, -51, -1, 0), 1 << 2);
        Due.due("proof of him", x.maybe(0, 0, -1, 1), 0);
        Due.due("proof of her: 2 and 2, or 2 and 1", x.maybe(1, 0, -1, 1), 0);
        x.rated(1, 4, 100, -40, true);
        Due.due("maybe of her, sure", x.maybe(1, 0, -1, 0), 1 << 4);
    }

    /** MAY RIGHTS behind the first ten are not so for MAYBE, whosever they are; BENCH 1 takes them. */
    private static void firstTen() {
        ParishUnion x = pair();
        for (int i = 0; i < 9; i++) {
            x.hire(1, 0, 10, -100, false, false);
        }
        x.hire(0, 3, 50, -100, false, false);
        x.hire(0, 4, 50, -90, false, false);
        Due.due("the eleventh", x.maybe(0, 0, -1, 0), 1 << 1 | 1 << 3);
        Due.due("bench 1", x.settle(0, 1, 0, -1), 4);
        Due.due("proof", x.maybe(0, 0, -1, 1), 9);
        x.proof(4, false);
        Due.due("the tenth now", x.maybe(0, 0, -1, 0), 1 << 1 | 1 << 3 | 1 << 4);
        Due.due("by 11", x.maybe(0, 0, 11, 0), 1 << 1 | 1 << 3);
    }

    private static void bestProof() {
        ParishUnion x = pair();
        x.hire(0, 2, 50, -100, false, false);
        x.hire(0, 3, 50, -90, false, false);
        x.hire(0, 4, 50, -80, false, false);
        // Each has 3 as its greater number: 3 and 3, 2 and 3, 1 and 3.
        Due.due("of several the least", x.maybe(0, 0, -1, 1), 0);
        x.hire(0, 2, 50, -85, false, false);
        // 3 and 4, 3 and 3, 1 and 3, 2 and 4.
        Due.due("the least of the greater ones", x.maybe(0, 0, -1, 1), 1);
        ParishUnion y = pair();
        y.hire(0, 3, 50, -100, false, false);
        y.hire(0, 4, 50, -90, false, false);
        y.hire(0, 4, 50, -80, false, true);
        Due.due("one parish, whatever is so", y.maybe(0, 0, -1, 1), NOBODY);
        ParishUnion z = pair();
        z.hire(0, 3, 10, -100, false, false);
        z.hire(0, 4, 50, -90, false, false);
        Due.due("a may right that changes nothing", z.maybe(0, 0, -1, 1), 1);
    }
}
