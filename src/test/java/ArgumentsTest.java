import java.util.ArrayList;
import java.util.List;
import java.util.function.Predicate;

/**
 * Every call with every argument at the last number that is allowed and at the first that is not, on
 * both sides, in a new object, in one with some of everything, in one with all places taken and in
 * one whose last WEEK went by: which refusal is the first one, that nothing else is refused, and that
 * a refused call leaves all as it was.
 */
public final class ArgumentsTest {
    private static final int NONE = -1, BAD = -2, STATE = -3, FULL = -4;
    private static final long LEAST = Integer.MIN_VALUE, MOST = Integer.MAX_VALUE;
    /** How many refused calls an object is asked, so that 512 are not passed. */
    private static final int REFUSED_OF_ONE = 100;

    /** Numbers for an argument, each with what it alone makes of a call: 0, or a refusal. */
    private record Arg(long[] numbers, int[] refusals) { }

    private static final class Call {
        final String name;
        final Arg[] args;
        Predicate<long[]> bad = a -> false;
        Predicate<long[]> state = a -> false;
        Predicate<long[]> full = a -> false;
        /** The least answer that is no refusal but lies among them. */
        int least = 0;

        Call(String name, Arg... args) {
            this.name = name;
            this.args = args;
        }

        Call bad(Predicate<long[]> p) {
            bad = p;
            return this;
        }

        Call state(Predicate<long[]> p) {
            state = p;
            return this;
        }

        Call full(Predicate<long[]> p) {
            full = p;
            return this;
        }

        Call mayAnswer(int number) {
            least = number;
            return this;
        }

        /** What is due: a refusal, the first one told; 0: none of them. */
        int due(long[] a) {
            boolean isBad = false;
            for (int i = 0; i < args.length; i++) {
                int refusal = refusalOf(i, a[i]);
                if (refusal == NONE) {
                    return NONE;
                }
                isBad |= refusal == BAD;
            }
            if (isBad || bad.test(a)) {
                return BAD;
            }
            if (state.test(a)) {
                return STATE;
            }
            return full.test(a) ? FULL : 0;
        }

        private int refusalOf(int arg, long number) {
            for (int i = 0; i < args[arg].numbers.length; i++) {
                if (args[arg].numbers[i] == number) {
                    return args[arg].refusals[i];
                }
            }
            throw new IllegalStateException(name);
        }
    }

    private final States s;
    private final List<Call> calls = new ArrayList<>();
    private int accepted;
    private int refused;

    private ArgumentsTest(States s) {
        this.s = s;
    }

    public static void main(String[] args) {
        for (int kind = 0; kind < States.COUNT; kind++) {
            ArgumentsTest t = new ArgumentsTest(States.of(kind));
            t.tellPersonsAndRights();
            t.tellActsAndOrders();
            t.tellHouse();
            t.tellRest();
            Due.due("all calls but image and undo", t.calls.size(), 44);
            for (Call c : t.calls) {
                t.askAll(c);
                t.leavesAllAsItWas(c);
            }
            System.out.println("state " + kind + ": " + t.refused + " refused, " + t.accepted + " not");
        }
        Due.end();
    }

    // ---- numbers for arguments

    private static Arg arg(long least, long most, int refusal) {
        List<Long> numbers = new ArrayList<>();
        List<Integer> refusals = new ArrayList<>();
        if (least <= most) {
            numbers.add(least);
            refusals.add(0);
        }
        if (least < most) {
            numbers.add(most);
            refusals.add(0);
        }
        long[] others = {least - 1, most + 1, LEAST, MOST};
        for (long n : others) {
            // Without any number that is allowed -1 and 0 are the first ones that are not.
            if (!numbers.contains(n)) {
                numbers.add(n);
                refusals.add(refusal);
            }
        }
        return new Arg(numbers.stream().mapToLong(n -> n).toArray(), refusals.stream().mapToInt(n -> n).toArray());
    }

    private static Arg number(long least, long most) {
        return arg(least, most, BAD);
    }

    private static Arg which(long least, long most) {
        return arg(least, most, NONE);
    }

    private static Arg parish() {
        return which(0, 5);
    }

    private static Arg yes() {
        return new Arg(new long[] {0, 1}, new int[] {0, 0});
    }

    private Arg person() {
        return which(0, s.persons - 1);
    }

    private Arg entries() {
        return which(-1, s.entries);
    }

    private Arg gone() {
        return which(0, s.now - 1);
    }

    private static Arg week() {
        return number(0, 300);
    }

    /** A WEEK up to NOW. */
    private Arg toldWeek() {
        return number(-3000, s.now);
    }

    /** Each of some numbers is allowed by itself. */
    private static Arg each(int count) {
        long[] numbers = new long[count + 2];
        int[] refusals = new int[count + 2];
        for (int i = 0; i < count; i++) {
            numbers[i] = i;
        }
        numbers[count] = -1;
        numbers[count + 1] = count;
        refusals[count] = NONE;
        refusals[count + 1] = NONE;
        return new Arg(numbers, refusals);
    }

    // ---- the calls, as the promises tell their refusals

    private Call add(String name, Arg... args) {
        Call c = new Call(name, args);
        calls.add(c);
        return c;
    }

    private void tellPersonsAndRights() {
        add("parish", parish(), number(0, 9999));
        add("road", each(6), each(6), number(1, 9)).bad(a -> a[0] == a[1]);
        add("far", parish(), parish());
        add("person", number(0, 1), toldWeek(), parish(), which(-1, s.persons - 1), number(0, 9))
            .bad(a -> a[3] >= 0 && (s.sex[(int) a[3]] == 1 || s.born[(int) a[3]] >= a[1]))
            .full(a -> s.persons == 16);
        // BORN and WEEKS of RIGHTS may be any of the refusals.
        add("about", person(), each(11)).mayAnswer(FULL);
        add("hire", person(), parish(), number(1, 200), toldWeek(), yes(), yes()).full(a -> s.rights == 40);
        add("rated", person(), parish(), number(1, 9999), toldWeek(), yes()).full(a -> s.rights == 40);
        add("wed", each(s.persons), each(s.persons), toldWeek(), yes())
            .bad(a -> s.sex[(int) a[0]] == 0 || s.sex[(int) a[1]] == 1).full(a -> s.rights == 40);
        add("proof", each(s.rights), yes())
            .state(a -> s.proved[(int) a[0]] || (a[1] == 1 && s.sure[(int) a[0]])).full(a -> s.entries == 80);
        add("right", each(s.rights), each(6)).mayAnswer(FULL);
        add("taken", each(s.rights), each(5));
        add("settle", person(), which(0, 1), number(-3000, 300), entries());
        add("maybe", person(), number(-3000, 300), entries(), which(0, 1));
    }

    private void tellActsAndOrders() {
        add("feed", new Arg(new long[] {0, -1, Long.MIN_VALUE}, new int[3]), number(1, 8))
            .full(a -> s.tape + a[1] > 150);
        add("text", week()).full(a -> s.acts == 10);
        add("force", week(), each(20)).mayAnswer(NONE);
        add("offer", each(s.persons), which(0, 1));
        add("order", each(s.persons), each(6)).bad(a -> s.at[(int) a[0]] == a[1])
            .state(a -> s.at[(int) a[0]] > 5).full(a -> s.orders == 20);
        add("appeal", which(0, s.orders - 1), which(0, 1), entries());
        add("unlike", entries());
        add("carry", each(s.orders)).state(a -> !s.canCarry[(int) a[0]]);
    }

    private void tellHouse() {
        add("house", each(5), new Arg(new long[] {0, 20, 21, 9999, -1, 10000, LEAST, MOST},
            new int[] {0, 0, 0, 0, BAD, BAD, BAD, BAD})).bad(a -> a[0] < 4 && a[1] > 20);
        add("price", number(0, 99));
        add("frost", new Arg(new long[] {0, s.now - 1, s.now, 300, -1, 301, LEAST, MOST},
            new int[] {0, s.now == 0 ? BAD : 0, 0, 0, BAD, BAD, BAD, BAD}), number(0, 9)).state(a -> a[0] < s.now);
        add("heard", parish(), week());
        add("week", number(1, Math.min(20, 300 - s.now)));
        add("gone", gone(), each(7));
        add("was", each(s.persons), gone(), each(4)).mayAnswer(NONE);
        add("share", parish(), gone(), entries());
        add("sink", gone(), gone(), entries()).bad(a -> a[0] > a[1]);
        add("owed", parish(), gone(), gone(), entries()).bad(a -> a[1] > a[2]);
    }

    private void tellRest() {
        add("night", number(0, 7), parish(), week()).full(a -> s.nights == 40);
        add("one", number(0, 255));
        add("greatest");
        add("master", each(4), new Arg(new long[] {0, 1, 9, -1, 10, LEAST, MOST},
            new int[] {0, 0, 0, BAD, BAD, BAD, BAD})).bad(a -> a[1] < s.has[(int) a[0]]);
        add("bind", each(s.persons), each(4)).state(a -> s.at[(int) a[0]] > 6
            || (s.now - s.born[(int) a[0]]) / 50 >= 14 || s.has[(int) a[1]] >= s.room[(int) a[1]]);
        add("run", each(s.persons)).state(a -> s.at[(int) a[0]] != 7);
        add("choice", which(0, 4), number(1, 99), number(0, 999)).full(a -> s.choices == 6);
        add("frosts", which(0, 2), new Arg(
            new long[] {0, 9, 10, 9999999999L, 10000000000L, -1, Long.MIN_VALUE, Long.MAX_VALUE}, new int[8]),
            number(1, 10)).bad(a -> a[1] < 0 || a[1] > Math.round(Math.pow(10, a[2])) - 1);
        add("plan", which(0, 1)).state(a -> !planCanBe());
        add("tried", new Arg(new long[] {0, 1, 2, -1, 3, LEAST, MOST},
            new int[] {row(0), row(1), row(2), NONE, NONE, NONE, NONE}), which(0, 2))
            .state(a -> s.now + s.rows[(int) a[0]] > 300);
        add("told", person(), number(0, 8));
        add("check", gone());
        add("count", which(0, 13));
    }

    private int row(int row) {
        return s.rows[row] == 0 ? NONE : 0;
    }

    private boolean planCanBe() {
        int most = 0;
        for (int many : s.rows) {
            most = Math.max(most, many);
        }
        return most > 0 && s.now + most <= 300;
    }

    // ---- the calls are asked

    private void askAll(Call c) {
        Both made = s.make(true);
        Both shared = s.make(false);
        int asked = 0;
        List<long[]> all = new ArrayList<>();
        gather(c, new long[c.args.length], 0, all);
        for (long[] a : all) {
            int due = c.due(a);
            String said = "state " + s.kind + ": " + Both.said(c.name, a);
            if (due != 0) {
                refused++;
                asked++;
                if (asked > REFUSED_OF_ONE) {
                    shared = s.make(false);
                    asked = 0;
                }
                Due.due(said, shared.ask(c.name, a), due);
            } else {
                accepted++;
                Both other = s.make(false);
                int got = other.ask(c.name, a);
                Due.due(said + " as by the model", got, made.due(c.name, a));
                Due.due(said + " is not refused", isRefusal(c, got) ? 1 : 0, 0);
            }
        }
    }

    private static boolean isRefusal(Call c, int answer) {
        return answer >= FULL && answer < c.least;
    }

    /** All numbers of each argument with all of the others. */
    private static void gather(Call c, long[] a, int arg, List<long[]> all) {
        if (arg == a.length) {
            all.add(a.clone());
            return;
        }
        for (long n : c.args[arg].numbers) {
            a[arg] = n;
            gather(c, a, arg + 1, all);
        }
    }

    /** Refused calls of all kinds, on one of two objects that are alike: they are alike then. */
    private void leavesAllAsItWas(Call c) {
        List<long[]> all = new ArrayList<>();
        gather(c, new long[c.args.length], 0, all);
        all.removeIf(a -> c.due(a) == 0);
        int step = Math.max(1, (all.size() + REFUSED_OF_ONE - 1) / REFUSED_OF_ONE);
        for (int part = 0; part < Look.PARTS && !all.isEmpty(); part++) {
            Both asked = s.make(false);
            for (int i = 0; i < all.size(); i += step) {
                asked.ask(c.name, all.get(i));
            }
            List<Long> due = Look.at(s.make(false).x, part);
            List<Long> seen = Look.at(asked.x, part);
            for (int i = 0; i < due.size(); i++) {
                Due.due("state " + s.kind + ": look " + part + ", " + i + " behind a refused " + c.name,
                    seen.get(i), due.get(i));
            }
        }
    }
}
