/** Promises 15 to 18: THE TAPE, ACTS, THE LAW, what is offered. */
public final class ActsTest {
    private static final int NONE = -1, BAD = -2, FULL = -4, NOBODY = -5;

    private ActsTest() {
    }

    public static void main(String[] args) {
        feed();
        text();
        goodTexts();
        faults();
        law();
        offers();
        conditions();
        home();
        Due.end();
    }

    private static void feed() {
        ParishUnion x = new ParishUnion();
        Due.due("feed bad", x.feed(0, 0), BAD);
        Due.due("feed bad", x.feed(0, 9), BAD);
        Due.due("feed bad", x.feed(0, -1), BAD);
        // "kin n", by bytes; what lies above the lowest n bytes counts not.
        Due.due("feed", x.feed(0x7A7A6B69L, 2), 2);
        Due.due("feed", x.feed(-1L << 24 | 0x6E206EL, 3), 5);
        Due.due("the tape", x.count(6), 5);
        Due.due("text", x.text(0), 0);
        Due.due("the tape is empty", x.count(6), 0);
        Due.due("kin", x.force(0, 6), 0);
        for (int i = 1; i <= 18; i++) {
            Due.due("feed", x.feed(0, 8), 8 * i);
        }
        Due.due("feed full", x.feed(0, 7), FULL);
        Due.due("bad ahead of full", x.feed(0, 9), BAD);
        Due.due("feed", x.feed(0, 6), 150);
        Due.due("feed full", x.feed(0, 1), FULL);
        Due.due("the tape", x.count(6), 150);
        Due.due("text", x.text(0), -10);
        Due.due("the tape is empty behind a fault", x.count(6), 0);
    }

    private static void text() {
        ParishUnion x = new ParishUnion();
        Due.due("an empty tape", x.text(0), -10);
        Due.feed(x, "wed n");
        Due.due("text bad", x.text(301), BAD);
        Due.due("text bad", x.text(-1), BAD);
        Due.due("the tape stays", x.count(6), 5);
        Due.due("text", x.text(300), 0);
        Due.due("the tape is empty", x.count(6), 0);
        for (int i = 1; i < 10; i++) {
            Due.due("text", Due.act(x, "fear " + i, 0), i);
        }
        Due.feed(x, "wed n");
        Due.due("text full", x.text(0), FULL);
        Due.due("bad ahead of full", x.text(301), BAD);
        Due.due("the tape stays", x.count(6), 5);
        Due.due("acts", x.count(3), 10);
    }

    private static void goodTexts() {
        String[] good = {"hired 0", "rated 9999", "diet 10;fear 1", "bind 123", "wed y", "wed n", "kin y", "kin n",
            "share r;share h;share e", "give 0 o", "give 9999 a<0", "ward 0 a>99", "ward 3 s=9&p=0|g<10",
            "ward 1 !!!!!!o", "ward 1 ((((((o))))))", "ward 1 !(!(!(o)))", "ward 1 !!!!(!o|o)&(!!!!!o|(((((o))))))", "ward 1 !!!!!!o&!!!!!!o",
            "ward 2 (o)&(o|o)&!(o&!o)|h<9", "fear 1;fear 2;fear 3;fear 4;fear 5;fear 6;fear 7;fear 8",
            "give 1 o;ward 1 f>0"};
        for (String t : good) {
            ParishUnion x = new ParishUnion();
            Due.due(t, Due.act(x, t, 0), 0);
        }
    }

    private static void faults() {
        Object[][] bad = {
            {"x", 0}, {"h", 1}, {"hi", 2}, {"hiref", 4}, {"hired", 5}, {"hired ", 6}, {"hired  1", 6}, {"hired x", 6},
            {"hired 12345", 10}, {"hired 01", 7}, {"hired 00", 7}, {"hired 1;", 8}, {"hired 1;;", 8}, {"hired 1 ", 7},
            {" hired 1", 0}, {"hired 1; rated 1", 8}, {"wa", 2}, {"we", 2}, {"wx", 1}, {"ward", 4}, {"wardx", 4},
            {"wed", 3}, {"wed x", 4}, {"wed yy", 5}, {"wed Y", 4}, {"kin z", 4}, {"kinn", 3}, {"share ", 6}, {"share n", 6},
            {"share r r", 7}, {"give o", 5}, {"give 1", 6}, {"give 1o", 6}, {"give 1 ", 7}, {"give 12345 o", 9},
            {"give 05 o", 6}, {"ward 4 o", 5}, {"ward 10 o", 6}, {"ward 1 ", 7}, {"ward 1  o", 7}, {"ward 1 oo", 8},
            {"ward 1 o&", 9}, {"ward 1 o|", 9}, {"ward 1 o&&o", 9}, {"ward 1 o;", 9}, {"ward 1 o)", 8}, {"ward 1 (o", 9},
            {"ward 1 (o;", 9}, {"ward 1 ()", 8}, {"ward 1 (o))", 10}, {"ward 1 !", 8}, {"ward 1 !)", 8}, {"ward 1 a", 8},
            {"ward 1 a=1", 8}, {"ward 1 a<", 9}, {"ward 1 a<x", 9}, {"ward 1 a<100", 11}, {"ward 1 a<01", 10},
            {"ward 1 a<00", 10}, {"ward 1 s<1", 8}, {"ward 1 s=", 9}, {"ward 1 s=10", 10}, {"ward 1 p=x", 9},
            {"ward 1 b<1", 7}, {"ward 1 !!!!!!!o", 13}, {"ward 1 (((((((o", 13}, {"ward 1 !(!(!(!o", 13},
            {"ward 1 (!o)&(((((((o", 18}, {"ward 1 !!!!(o&!o&!!o", 18},
            {"fear 1;fear 2;fear 3;fear 4;fear 5;fear 6;fear 7;fear 8;", 55},
            {"fear 1;fear 2;fear 3;fear 4;fear 5;fear 6;fear 7;fear 8;fear 9", 55},
            {"wed y\u00ff", 5}, {"\u0000", 0}, {"hired \u00b1", 6}};
        for (Object[] b : bad) {
            ParishUnion x = new ParishUnion();
            Due.due((String) b[0], Due.act(x, (String) b[0], 0), -10 - (Integer) b[1]);
            Due.due("the tape is empty", x.count(6), 0);
            Due.due("no act", x.count(3), 0);
        }
    }

    private static void law() {
        ParishUnion x = new ParishUnion();
        int[] without = {50, 100, 10, 5, 14, 1, 1, 0, 0, 0};
        for (int what = 0; what < 10; what++) {
            Due.due("without any", x.force(0, what), without[what]);
            Due.due("by no act", x.force(300, 10 + what), NONE);
        }
        Due.due("force none", x.force(0, 20), NONE);
        Due.due("force none", x.force(0, -1), NONE);
        Due.due("force none ahead of bad", x.force(301, 20), NONE);
        Due.due("force bad", x.force(301, 0), BAD);
        Due.due("force bad", x.force(-1, 0), BAD);
        Due.act(x, "hired 1;rated 2;diet 3;fear 4;bind 5;wed n;kin n;share h", 7);
        int[] all = {1, 2, 3, 4, 5, 0, 0, 1};
        for (int what = 0; what < 8; what++) {
            Due.due("a week ahead", x.force(6, what), without[what]);
            Due.due("a week ahead", x.force(6, 10 + what), NONE);
            Due.due("in force", x.force(7, what), all[what]);
            Due.due("in force", x.force(300, 10 + what), 0);
        }
        Due.due("other words", x.force(7, 18), NONE);
        Due.act(x, "hired 20;hired 21", 5);
        Due.due("the last clause", x.force(5, 0), 21);
        Due.due("the greatest week", x.force(7, 0), 1);
        Due.due("the greatest week", x.force(6, 10), 1);
        Due.act(x, "hired 30;share e", 7);
        Due.due("of like ones the latest", x.force(7, 0), 30);
        Due.due("of like ones the latest", x.force(7, 10), 2);
        Due.due("share e", x.force(7, 7), 2);
        Due.due("each word for itself", x.force(7, 11), 0);
        Due.act(x, "give 1 o;ward 1 o;give 2 o;give 3 o", 0);
        Due.due("give clauses", x.force(0, 8), 3);
        Due.due("ward clauses", x.force(0, 9), 1);
        Due.act(x, "give 9 o;share r", 2);
        Due.due("give clauses of one act", x.force(2, 8), 1);
        Due.due("give by", x.force(2, 18), 4);
        Due.due("ward by", x.force(2, 19), 3);
        Due.due("share r again", x.force(2, 7), 0);
    }

    private static void offers() {
        ParishUnion x = new ParishUnion();
        Due.due("offer none", x.offer(0, 0), NONE);
        x.person(0, -1000, 1, -1, 5);
        Due.due("offer none", x.offer(0, 2), NONE);
        Due.due("offer none", x.offer(0, -1), NONE);
        Due.due("offer none", x.offer(1, 0), NONE);
        Due.due("nothing", x.offer(0, 0), 0);
        Due.due("ward 0 without clauses", x.offer(0, 1), 0);
        Due.act(x, "give 5 s=1;give 7 s=0;give 9 o;ward 3 s=0;ward 2 o", 0);
        Due.due("the first that holds", x.offer(0, 0), 7);
        Due.due("the first that holds", x.offer(0, 1), 3);
        Due.act(x, "give 5 s=1;ward 1 s=1", 0);
        Due.due("none holds", x.offer(0, 0), 0);
        Due.due("none holds", x.offer(0, 1), NOBODY);
        Due.act(x, "give 6 o;ward 1 o", 1);
        Due.due("the law of now", x.offer(0, 0), 0);
        x.week(1);
        Due.due("the law of now", x.offer(0, 0), 6);
        Due.due("the law of now", x.offer(0, 1), 1);
    }

    private static void conditions() {
        // A man of 20 with strength 5 and hunger 0 at 1, frost 6; by parts and by how they are joined.
        String[] so = {"a>19", "a<21", "g>4", "g<6", "h<1", "f>5", "f<7", "s=0", "p=1", "o", "!s=1", "!!s=0", "(s=0)",
            "s=1|s=0", "s=0|s=1", "s=0&s=0", "s=0|s=0&s=1", "s=1&s=0|s=0", "!(s=0&s=1)", "!(s=1|s=1)", "!s=1&s=0",
            "(s=0|s=0)&(s=1|s=0)", "!(!(s=0))", "!(!(!(s=1)))", "s=1|(s=1|(s=1|(s=1|(s=1|(s=0)))))",
            "s=0&(s=0&(s=0&(s=0&(s=0&(s=0)))))", "!(s=1|!(s=0&!(s=1|s=1)))"};
        String[] not = {"a>20", "a<20", "g>5", "g<5", "h>0", "f>6", "f<6", "s=1", "p=0", "p=6", "!o", "!s=0", "!!s=1",
            "(s=1)", "s=1|s=1", "s=0&s=1", "s=1&s=0", "(s=0|s=0)&s=1", "s=1&(s=0|s=0)", "!(s=0|s=1)", "!s=0|s=1",
            "!(s=0)&s=0", "s=7", "!(s=0|s=1)|s=1", "(s=1|s=0)&!(s=0)"};
        ParishUnion x = new ParishUnion();
        x.person(0, -1000, 1, -1, 5);
        x.frost(0, 6);
        x.frosts(0, 6, 1);
        x.image();
        for (String t : so) {
            x.undo();
            Due.due(t, Due.act(x, "give 1 " + t, 0), 0);
            Due.due(t, x.offer(0, 0), 1);
        }
        for (String t : not) {
            x.undo();
            Due.due(t, Due.act(x, "give 1 " + t + ";kin y", 0), 0);
            Due.due(t, x.offer(0, 0), 0);
        }
        x.undo();
        Due.act(x, "give 3 h>2;give 2 h>1;give 1 h>0", 0);
        x.week(1);
        // Hunger is 0 + 1 + 2 - 1, then 2 less.
        Due.due("given by the hunger of then", x.gone(0, 1), 2);
        Due.due("hunger behind that", x.about(0, 6), 0);
        Due.due("age cut", Due.act(x, "give 4 a>19&a<21", 1), 1);
        Due.due("age of a week later", x.offer(0, 0), 4);
    }

    /** o: AT the PARISH whose it is by BENCH 1, of all ENTRIES, as of NOW. */
    private static void home() {
        ParishUnion x = new ParishUnion();
        x.person(0, -1000, 1, -1, 5);
        x.person(0, -100, 0, -1, 5);
        Due.act(x, "give 1 o;ward 2 !o;fear 100", 0);
        Due.due("at home", x.offer(0, 0), 1);
        Due.due("at home", x.offer(0, 1), NOBODY);
        x.hire(0, 2, 50, 0, false, false);
        Due.due("a may right leads away", x.offer(0, 0), 0);
        Due.due("a may right leads away", x.offer(0, 1), 2);
        x.carry(x.order(0, 2));
        Due.due("at home again", x.offer(0, 0), 1);
        x.proof(0, false);
        Due.due("disproved", x.offer(0, 0), 0);
        x.master(0, 1);
        x.bind(1, 0);
        Due.due("bound: not at the parish", x.offer(1, 0), 0);
        Due.due("bound: not at the parish", x.offer(1, 1), 2);
    }
}
