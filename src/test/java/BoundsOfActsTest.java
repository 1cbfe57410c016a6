/** The bounds that part 3 of the "Terms" names: THE TAPE, what an ACT may be, FAULTS, THE LAW, conditions. */
public final class BoundsOfActsTest {
    private static final int NONE = -1, BAD = -2, FULL = -4, NOBODY = -5;
    private static final String[] NUMBERED = {"hired", "rated", "diet", "fear", "bind"};
    /** More open ! and ( than these are too many. */
    private static final int MOST_OPEN = 6;

    private BoundsOfActsTest() {
    }

    public static void main(String[] args) {
        bytesOfFeed();
        fullTape();
        longestAct();
        actsByTheirBeginnings();
        conditionsByTheirBeginnings();
        firstStrangeByte();
        numbersOfWords();
        numbersOfConditions();
        blanks();
        letters();
        clauses();
        openOnes();
        behindAFault();
        shorterTextBehindALongerOne();
        tenActs();
        weeksOfActs();
        lawOfLikeOnes();
        lawOfOneAct();
        clausesInTheirOrder();
        lawWithoutAny();
        comparisons();
        places();
        brackets();
        Due.end();
    }

    private static int read(String text) {
        return Due.act(new ParishUnion(), text, 0);
    }

    private static void isAct(String text) {
        Due.due(text, read(text), 0);
    }

    private static void isFault(String text, int place) {
        Due.due(text, read(text), -10 - place);
    }

    // ---- THE TAPE

    private static void bytesOfFeed() {
        ParishUnion x = new ParishUnion();
        Due.due("no byte", x.feed(0x6b696e206eL, 0), BAD);
        Due.due("nine bytes", x.feed(0x6b696e206eL, 9), BAD);
        Due.due("the tape is empty", x.count(6), 0);
        Due.due("one byte", x.feed(0x6b, 1), 1);
        Due.due("eight bytes", x.feed(0x696e206e3b776564L, 8), 9);
        Due.due("two bytes, the highest first, of a number below 0", x.feed(-1L << 16 | 0x206e, 2), 11);
        Due.due("kin n;wed n", x.text(0), 0);
        Due.due("kin", x.force(0, 6), 0);
        Due.due("wed", x.force(0, 5), 0);
        Due.due("eight bytes of 255", x.feed(-1, 8), 8);
        Due.due("no act begins so", x.text(0), -10);
    }

    private static void fullTape() {
        for (int n = 1; n <= 8; n++) {
            ParishUnion x = new ParishUnion();
            int size = 0;
            while (size + n <= 150) {
                size += n;
                Due.due("feed", x.feed(0, n), size);
            }
            Due.due("a byte too many, by " + n, x.feed(0, n), FULL);
            Due.due("the tape stays", x.count(6), size);
            if (size < 150) {
                Due.due("as many as there is room for", x.feed(0, 150 - size), 150);
            }
            Due.due("no room for one", x.feed(0, 1), FULL);
            Due.due("bad ahead of full", x.feed(0, 0), BAD);
            Due.due("150 bytes", x.count(6), 150);
            Due.due("they are no act", x.text(0), -10);
            Due.due("there is room again", x.feed(0, 8), 8);
        }
    }

    /** Texts of 150 bytes: an ACT, a FAULT with the last byte, one that ends too early. */
    private static void longestAct() {
        String text = "give 77 s=9" + "|s=9".repeat(33) + "|o&s=0";
        Due.due("its size", text.length(), 149);
        ParishUnion x = new ParishUnion();
        x.person(0, -100, 1, -1, 5);
        Due.due("149 bytes", Due.act(x, text, 0), 0);
        Due.due("by the last of them", x.offer(0, 0), 77);
        Due.due("150 bytes", Due.act(x, text.replace("give 77", "give 777"), 0), 1);
        Due.due("by the last of them", x.offer(0, 0), 777);
        isFault(text + "&", 150);
        isFault(text + ";", 150);
        isFault(text + "x", 149);
        isFault(text + "0", 149);
        isFault(text.replace("give 77", "give 777").substring(0, 149), 149);
    }

    // ---- where no ACT can go on

    private static void actsByTheirBeginnings() {
        String text = "hired 50;rated 100;diet 0;fear 9999;bind 14;wed y;kin n;share h";
        String ends = "(?:.*;)?(?:(?:hired|rated|diet|fear|bind) [0-9]+|(?:wed|kin) [yn]|share [rhe])";
        for (int n = 0; n <= text.length(); n++) {
            String t = text.substring(0, n);
            if (t.matches(ends)) {
                isAct(t);
            } else {
                isFault(t, n);
            }
        }
    }

    private static void conditionsByTheirBeginnings() {
        String give = "give 10 !(a<5|g>99)&o";
        for (int n = 0; n <= give.length(); n++) {
            String t = give.substring(0, n);
            if (t.equals(give) || t.endsWith(")")) {
                isAct(t);
            } else {
                isFault(t, n);
            }
        }
        String ward = "ward 3 ((s=1&p=8)|!!h>0|f<10)";
        for (int n = 0; n < ward.length(); n++) {
            isFault(ward.substring(0, n), n);
        }
        isAct(ward);
        String plain = "ward 0 o&!o|f>1";
        for (int n = 0; n <= plain.length(); n++) {
            String t = plain.substring(0, n);
            if (t.endsWith("o") || t.endsWith("1")) {
                isAct(t);
            } else {
                isFault(t, n);
            }
        }
    }

    private static void firstStrangeByte() {
        String text = "give 10 !(a<5|g>99)&o;ward 3 ((s=1&p=8)|!!h>0);hired 50;wed y;kin n;share h";
        for (int n = 0; n < text.length(); n++) {
            isFault(text.substring(0, n) + "\u00ff" + text.substring(n + 1), n);
            isFault(text.substring(0, n) + "\u0000" + text.substring(n), n);
            isFault(text.substring(0, n) + "?", n);
        }
        isAct(text);
        isFault(text + "?", text.length());
    }

    private static void numbersOfWords() {
        for (int w = 0; w < NUMBERED.length; w++) {
            String word = NUMBERED[w] + " ";
            int at = word.length();
            int[] good = {0, 1, 9, 10, 99, 100, 999, 1000, 9999};
            for (int n : good) {
                ParishUnion x = new ParishUnion();
                Due.due(word + n, Due.act(x, word + n, 0), 0);
                Due.due(word + n + " in force", x.force(0, w), n);
            }
            isFault(word, at);
            isFault(word + "-1", at);
            isFault(word + "+1", at);
            isFault(word + "00", at + 1);
            isFault(word + "01", at + 1);
            isFault(word + "10000", at + 4);
            isFault(word + "99999", at + 4);
            isFault(word + "0x", at + 1);
            isFault(word + "9999x", at + 4);
            isFault(word + "1o", at + 1);
            isFault(word + "1 o", at + 1);
            isFault(word + "y", at);
        }
        ParishUnion x = new ParishUnion();
        x.person(0, -100, 1, -1, 5);
        int[] given = {0, 1, 10, 100, 1000, 9999};
        for (int n : given) {
            Due.act(x, "give " + n + " o", 0);
            Due.due("give " + n, x.offer(0, 0), n);
        }
        isFault("give 00 o", 6);
        isFault("give 09 o", 6);
        isFault("give 10000 o", 9);
        isFault("give -1 o", 5);
        for (int k = 0; k <= 3; k++) {
            ParishUnion y = new ParishUnion();
            y.person(0, -100, 1, -1, 5);
            Due.act(y, "ward " + k + " o", 0);
            Due.due("ward " + k, y.offer(0, 1), k);
            isFault("ward " + k + k + " o", 6);
        }
        isFault("ward 4 o", 5);
        isFault("ward 9 o", 5);
        isFault("ward /", 5);
        isFault("ward  0 o", 5);
    }

    private static void numbersOfConditions() {
        String[] ones = {"a<", "a>", "g<", "g>", "h<", "h>", "f<", "f>"};
        for (String c : ones) {
            String text = "ward 1 " + c;
            int at = text.length();
            isAct(text + "0");
            isAct(text + "9");
            isAct(text + "10");
            isAct(text + "99");
            isFault(text, at);
            isFault(text + "x", at);
            isFault(text + "00", at + 1);
            isFault(text + "05", at + 1);
            isFault(text + "100", at + 2);
            isFault(text + "=1", at);
            isFault("ward 1 " + c.charAt(0), at - 1);
            isFault("ward 1 " + c.charAt(0) + "=1", at - 1);
            isFault("ward 1 " + c.charAt(0) + "1", at - 1);
        }
        String[] others = {"s", "p"};
        for (String c : others) {
            String text = "ward 1 " + c;
            for (int n = 0; n <= 9; n++) {
                isAct(text + "=" + n);
            }
            isFault(text, 8);
            isFault(text + "=", 9);
            isFault(text + "<1", 8);
            isFault(text + ">1", 8);
            isFault(text + "=x", 9);
            isFault(text + "=10", 10);
            isFault(text + "=00", 10);
        }
        String strange = "bcdeijklmnqrtuvwxyzAGHFSPO019<>=&|) ;";
        for (int i = 0; i < strange.length(); i++) {
            isFault("ward 1 " + strange.charAt(i), 7);
        }
    }

    private static void blanks() {
        isFault(" fear 1", 0);
        isFault("fear1", 4);
        isFault("fear  1", 5);
        isFault("fear\t1", 4);
        isFault("fear 1 ", 6);
        isFault("fear 1 ;fear 1", 6);
        isFault("fear 1; fear 1", 7);
        isFault("wedy", 3);
        isFault("share  r", 6);
        isFault("give 1o", 6);
        isFault("give 1  o", 7);
        isFault("give 1 o ", 8);
        isFault("give 1 o &o", 8);
        isFault("give 1 o& o", 9);
        isFault("give 1 a <1", 8);
        isFault("give 1 ( o)", 8);
        isFault("ward1 o", 4);
    }

    private static void letters() {
        String all = "abcdefghijklmnopqrstuvwxyzYNRHE01;! ";
        for (int i = 0; i < all.length(); i++) {
            char c = all.charAt(i);
            Due.due("wed " + c, read("wed " + c), c == 'y' || c == 'n' ? 0 : -14);
            Due.due("kin " + c, read("kin " + c), c == 'y' || c == 'n' ? 0 : -14);
            Due.due("share " + c, read("share " + c), c == 'r' || c == 'h' || c == 'e' ? 0 : -16);
            Due.due("a word that begins so", read(String.valueOf(c)), "hrdfbwksg".indexOf(c) >= 0 ? -11 : -10);
            Due.due("w" + c, read("w" + c), c == 'a' || c == 'e' ? -12 : -11);
        }
        isFault("Fear 1", 0);
        isFault("fEar 1", 1);
        isFault("feaR 1", 3);
        isFault("", 0);
    }

    private static void clauses() {
        StringBuilder text = new StringBuilder();
        for (int n = 1; n <= 8; n++) {
            text.append(n == 1 ? "" : ";").append("fear ").append(n);
            ParishUnion x = new ParishUnion();
            Due.due(n + " clauses", Due.act(x, text.toString(), 0), 0);
            Due.due("the last counts", x.force(0, 3), n);
        }
        isFault(text + ";", text.length());
        isFault(text + ";fear 9", text.length());
        isFault(text + "9999", text.length() + 3);
        isFault(";", 0);
        isFault(";fear 1", 0);
        isFault("fear 1;", 7);
        isFault("fear 1;;fear 2", 7);
        String eight = "give 1 s=9;give 2 s=9;give 3 s=9;give 4 s=9;ward 0 s=9;ward 1 s=9;ward 2 s=9;ward 3 ";
        ParishUnion x = new ParishUnion();
        x.person(0, -100, 1, -1, 5);
        Due.due("eight with conditions", Due.act(x, eight + "s=9", 0), 0);
        Due.due("four", x.force(0, 8), 4);
        Due.due("four", x.force(0, 9), 4);
        Due.due("none of eight holds", x.offer(0, 0), 0);
        Due.due("none of eight holds", x.offer(0, 1), NOBODY);
        Due.due("eight with conditions", Due.act(x, eight + "o", 0), 1);
        Due.due("the eighth", x.offer(0, 1), 3);
        isFault(eight + "o;", eight.length() + 1);
    }

    private static void openOnes() {
        for (int nots = 0; nots <= 7; nots++) {
            for (int opens = 0; opens <= 7; opens++) {
                String signs = "!".repeat(nots) + "(".repeat(opens);
                String text = "ward 1 " + signs + "o" + ")".repeat(opens);
                Due.due(text, read(text), nots + opens <= MOST_OPEN ? 0 : -10 - 7 - MOST_OPEN);
                // A ! ahead of each ( that ends behind its ).
                String mixed = "ward 1 " + "(".repeat(opens) + "!".repeat(nots) + "o" + ")".repeat(opens);
                Due.due(mixed, read(mixed), nots + opens <= MOST_OPEN ? 0 : -10 - 7 - MOST_OPEN);
            }
        }
        isAct("ward 1 !!!!!!o&!!!!!!o|((((((o))))))");
        isAct("ward 1 !!!!!(o)&!!!!!(o)");
        isAct("ward 1 !!!(!!o&!!o|(!o))&!!!!!!o");
        isAct("ward 1 (((((!o)))))&(((((!a<9)))))");
        isFault("ward 1 (((((!!o)))))", 13);
        isFault("ward 1 (((((o&!(o))))))", 15);
        isFault("ward 1 !!!(!!o&!!!o)", 17);
        isFault("ward 1 !!!(!!(o)&o)", -1 + 15 + 6 - 7);
        isFault("ward 1 (o", 9);
        isFault("ward 1 (o;fear 1", 9);
        isFault("ward 1 o)", 8);
        isFault("ward 1 (o))", 10);
        isFault("ward 1 ((o)", 11);
        isFault("ward 1 ()", 8);
        isFault("ward 1 !", 8);
        isFault("ward 1 !;", 8);
        isFault("ward 1 (!)", 9);
    }

    /** A text with a FAULT leaves nothing that the next one meets. */
    private static void behindAFault() {
        ParishUnion x = new ParishUnion();
        x.person(0, -100, 1, -1, 5);
        Due.due("three are open", Due.act(x, "ward 1 (!(o", 0), -21);
        Due.due("the tape is empty", x.count(6), 0);
        Due.due("none is open", Due.act(x, "ward 1 o", 0), 0);
        Due.due("a fault", Due.act(x, "fear 9;give 5 o;x", 0), -26);
        Due.due("no act", x.count(3), 1);
        Due.due("no law", x.force(0, 3), 5);
        Due.due("no gift", x.force(0, 8), 0);
        Due.due("another text", Due.act(x, "give 1 s=9", 0), 1);
        Due.due("one clause", x.force(0, 8), 1);
        Due.due("it does not hold", x.offer(0, 0), 0);
        Due.due("no fear", x.force(0, 13), NONE);
        Due.due("a fault, all open", Due.act(x, "give 1 ((((((o", 0), -24);
        Due.due("six may be open again", Due.act(x, "give 7 ((((((o))))))", 0), 2);
        Due.due("it holds", x.offer(0, 0), 7);
    }

    private static void shorterTextBehindALongerOne() {
        ParishUnion x = new ParishUnion();
        x.person(0, -100, 1, -1, 5);
        Due.due("a long one", Due.act(x, "fear 1234;x", 0), -20);
        Due.due("its beginning", Due.act(x, "fe", 0), -12);
        Due.due("its beginning", Due.act(x, "fear", 0), -14);
        Due.due("its beginning", Due.act(x, "fear ", 0), -15);
        Due.due("its beginning", Due.act(x, "fear 1", 0), 0);
        Due.due("one digit", x.force(0, 3), 1);
        Due.due("a long one", Due.act(x, "give 3 g<59x", 0), -21);
        Due.due("its beginning", Due.act(x, "give 3 g<5", 0), 1);
        Due.due("5 is not below 5", x.offer(0, 0), 0);
        Due.due("a long one", Due.act(x, "give 3 g<5|o&x", 0), -23);
        Due.due("its beginning", Due.act(x, "give 3 g<5", 0), 2);
        Due.due("5 is not below 5", x.offer(0, 0), 0);
        Due.due("a long one", Due.act(x, "ward 2 s=0&(o)x", 0), -24);
        Due.due("its beginning", Due.act(x, "ward 2 s=0&(o", 0), -23);
        Due.due("its beginning", Due.act(x, "ward 2 s=0", 0), 3);
        Due.due("it holds", x.offer(0, 1), 2);
    }

    // ---- ACTS and THE LAW

    private static void tenActs() {
        ParishUnion x = new ParishUnion();
        Due.due("none yet", x.count(3), 0);
        for (int i = 0; i < 10; i++) {
            Due.due("a fault takes no number", Due.act(x, "fear", i), -14);
            Due.due("an act", Due.act(x, "fear " + i, i), i);
        }
        Due.feed(x, "fear 77");
        Due.due("an eleventh", x.text(0), FULL);
        Due.due("the tape stays", x.count(6), 7);
        Due.due("bad ahead of full", x.text(-1), BAD);
        Due.due("the tape stays", x.count(6), 7);
        Due.feed(x, "x");
        Due.due("full ahead of a fault", x.text(0), FULL);
        Due.due("the tape stays", x.count(6), 8);
        Due.due("ten", x.count(3), 10);
        Due.due("the law is as it was", x.force(300, 3), 9);
    }

    private static void weeksOfActs() {
        ParishUnion x = new ParishUnion();
        Due.feed(x, "fear");
        Due.due("bad ahead of a fault", x.text(301), BAD);
        Due.due("bad ahead of a fault", x.text(-1), BAD);
        Due.due("the tape stays", x.count(6), 4);
        Due.feed(x, " 8");
        Due.due("of week 300", x.text(300), 0);
        Due.due("week 299", x.force(299, 3), 5);
        Due.due("week 299", x.force(299, 13), NONE);
        Due.due("week 300", x.force(300, 3), 8);
        Due.due("week 300", x.force(300, 13), 0);
        Due.due("of week 0", Due.act(x, "fear 7", 0), 1);
        Due.due("week 0", x.force(0, 3), 7);
        Due.due("week 0", x.force(0, 13), 1);
        Due.due("week 299", x.force(299, 13), 1);
        Due.due("week 300", x.force(300, 13), 0);
        Due.due("week 301", x.force(301, 3), BAD);
        Due.due("week -1", x.force(-1, 3), BAD);
        x.week(5);
        Due.due("of a week that went by", Due.act(x, "fear 6", 3), 2);
        Due.due("week 2", x.force(2, 3), 7);
        Due.due("week 3", x.force(3, 3), 6);
    }

    private static void lawOfLikeOnes() {
        ParishUnion x = new ParishUnion();
        int[] weeks = {5, 3, 5, 4, 5, 0};
        for (int i = 0; i < weeks.length; i++) {
            Due.act(x, "diet " + i, weeks[i]);
        }
        int[] due = {5, 5, 5, 1, 3, 4, 4};
        for (int week = 0; week < due.length; week++) {
            Due.due("diet of week " + week, x.force(week, 2), due[week]);
            Due.due("by the act", x.force(week, 12), due[week]);
        }
        Due.due("other words", x.force(6, 10), NONE);
    }

    private static void lawOfOneAct() {
        ParishUnion x = new ParishUnion();
        Due.act(x, "hired 1;hired 2;hired 3;wed n;wed y;kin y;kin n;share e", 0);
        Due.due("the last", x.force(0, 0), 3);
        Due.due("the last", x.force(0, 5), 1);
        Due.due("the last", x.force(0, 6), 0);
        Due.due("the only one", x.force(0, 7), 2);
        Due.act(x, "share e;share h;share r", 0);
        Due.due("the last", x.force(0, 7), 0);
        Due.due("by the act", x.force(0, 17), 1);
    }

    /** All give CLAUSES of one ACT, in their order, and none of another ACT's. */
    private static void clausesInTheirOrder() {
        ParishUnion x = new ParishUnion();
        x.person(0, -100, 1, -1, 5);
        x.person(1, -100, 1, -1, 5);
        Due.act(x, "give 1 s=0;ward 1 s=0;give 2 o;ward 2 o", 0);
        Due.due("the first", x.offer(0, 0), 1);
        Due.due("the second", x.offer(1, 0), 2);
        Due.due("the first", x.offer(0, 1), 1);
        Due.due("the second", x.offer(1, 1), 2);
        Due.act(x, "give 9 s=1", 0);
        Due.due("the other act's alone", x.offer(0, 0), 0);
        Due.due("the other act's alone", x.offer(1, 0), 9);
        Due.due("it has no ward clause", x.offer(0, 1), 1);
        Due.act(x, "ward 3 s=1", 0);
        Due.due("none of them holds", x.offer(0, 1), NOBODY);
        Due.due("the only one", x.offer(1, 1), 3);
        Due.act(x, "give 8 o;ward 0 o", 1);
        Due.due("not in force yet", x.offer(0, 0), 0);
        Due.due("not in force yet", x.offer(0, 1), NOBODY);
        x.week(1);
        Due.due("in force", x.offer(0, 0), 8);
        Due.due("in force", x.offer(0, 1), 0);
    }

    private static void lawWithoutAny() {
        int[] due = {50, 100, 10, 5, 14, 1, 1, 0, 0, 0};
        ParishUnion x = new ParishUnion();
        Due.act(x, "hired 1;rated 1;diet 1;fear 1;bind 1;wed n;kin n;share e", 300);
        Due.act(x, "give 1 o;ward 1 o", 300);
        for (int what = 0; what < 10; what++) {
            Due.due("week 0, " + what, x.force(0, what), due[what]);
            Due.due("week 299, " + what, x.force(299, what), due[what]);
            Due.due("by no act", x.force(299, 10 + what), NONE);
            Due.due("week 300, by the act", x.force(300, 10 + what), what < 8 ? 0 : 1);
        }
        Due.due("no what 20", x.force(300, 20), NONE);
        Due.due("no what -1", x.force(300, -1), NONE);
    }

    // ---- conditions

    /** The IMAGE is one of an object that the text is tried in. */
    private static void holds(ParishUnion x, int person, String condition, boolean so) {
        x.undo();
        Due.due(condition, Due.act(x, "give 1 " + condition, 0) < 0 ? 1 : 0, 0);
        Due.due(condition + " of " + person, x.offer(person, 0), so ? 1 : 0);
    }

    /** What is compared, with the number ahead of it, the same one and the next one. */
    private static void compare(ParishUnion x, int person, char what, int value) {
        for (int n = Math.max(0, value - 1); n <= value + 1; n++) {
            holds(x, person, what + "<" + n, value < n);
            holds(x, person, what + ">" + n, value > n);
        }
        holds(x, person, what + "<99", value < 99);
        holds(x, person, what + ">0", value > 0);
    }

    private static void comparisons() {
        ParishUnion x = new ParishUnion();
        x.person(0, 0, 1, -1, 0);
        x.person(1, -3000, 1, -1, 9);
        x.frost(0, 9);
        x.frost(2, 9);
        x.image();
        compare(x, 0, 'a', 0);
        compare(x, 1, 'a', 60);
        compare(x, 0, 'g', 0);
        compare(x, 1, 'g', 9);
        compare(x, 0, 'h', 0);
        compare(x, 0, 'f', 9);
        for (int n = 0; n <= 9; n++) {
            holds(x, 0, "s=" + n, n == 0);
            holds(x, 1, "s=" + n, n == 1);
        }
        ParishUnion y = new ParishUnion();
        y.person(0, -500, 1, -1, 0);
        Due.act(y, "fear 99", 0);
        y.week(19);
        y.image();
        compare(y, 0, 'h', 19);
        compare(y, 0, 'f', 0);
        compare(y, 0, 'a', 10);
        holds2(y, "a<11&a>9&h<20&h>18&g<1&f<1");
    }

    private static void holds2(ParishUnion x, String condition) {
        x.undo();
        Due.act(x, "give 1 " + condition, 0);
        Due.due(condition, x.offer(0, 0), 1);
        x.undo();
        Due.act(x, "give 1 !(" + condition + ")", 0);
        Due.due("not " + condition, x.offer(0, 0), 0);
    }

    /** Person n is AT n: in PARISHES 0 .. 5, in THE HOUSE, BOUND and DEAD. */
    private static ParishUnion everywhere() {
        ParishUnion x = new ParishUnion();
        for (int p = 0; p < 6; p++) {
            x.person(0, -1000, p, -1, 9);
        }
        x.person(1, -1000, 1, -1, 0);
        x.person(0, -100, 1, -1, 0);
        x.person(0, -1000, 1, -1, 0);
        x.master(0, 1);
        x.bind(7, 0);
        x.house(4, 100);
        // In WEEK 18 the woman goes in, and he is REFUSED; in WEEK 19 he is DEAD.
        Due.act(x, "fear 18;ward 0 s=1", 0);
        x.week(20);
        x.image();
        return x;
    }

    /** p is 0 .. 8: six PARISHES, THE HOUSE, BOUND, DEAD; o is so in a PARISH alone. */
    private static void places() {
        for (int person = 0; person < 9; person++) {
            ParishUnion x = everywhere();
            Due.due("where it is", x.about(person, 5), person);
            for (int n = 0; n <= 9; n++) {
                holds(x, person, "p=" + n, n == person);
            }
            holds(x, person, "o", person < 6);
            holds(x, person, "!o", person >= 6);
        }
    }

    private static void brackets() {
        ParishUnion x = new ParishUnion();
        x.person(0, -1000, 1, -1, 5);
        x.image();
        String[] so = {"s=0|(s=0)", "s=0|(s=1)", "s=1|(s=0)", "s=0&(s=0)", "!(s=1)&s=0", "s=0&!(s=1)", "((s=0))",
            "(((((( s=0))))))".replace(" ", ""), "!((s=1))", "(!(s=1))", "((!s=1))", "!(!((s=0)))", "!((!(s=0)))",
            "(s=1|(s=0))&s=0", "((s=1)|s=0)&s=0", "s=1&s=1|s=0", "s=1|s=0&s=0", "s=0|s=1&s=1", "!s=0|s=0", "a<29", "h<19",
            "(s=0|s=1)&(s=1|s=0)&!(s=1&s=0)", "s=1&(s=0|s=0)|s=0", "!(s=0&!(s=0|!(s=1)))"};
        String[] not = {"s=1&!(s=1)", "s=1&(s=0)", "s=0&(s=1)", "(s=1)&s=0", "!((s=0))", "(!(s=0))", "((!s=0))",
            "!(!((s=1)))", "s=1|(s=1)", "s=1|!(s=0)", "!(s=0)|s=1", "(s=0|s=0)&(s=1)", "!(s=0|s=1)&s=0", "s=1&s=0|s=1",
            "(s=1|s=0)&(s=1|s=1)", "((s=0)&(s=1))|s=1", "!((s=0)|(s=1))", "a>29", "h>19", "!(s=1|!(s=0&!(s=0)))"};
        for (String c : so) {
            holds(x, 0, c, true);
        }
        for (String c : not) {
            holds(x, 0, c, false);
        }
    }
}
