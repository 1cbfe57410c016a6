import java.util.ArrayList;
import java.util.List;
import java.util.Random;

/** Random runs of 512 calls, answered by the class and by the model. The seeds are fixed. */
public final class RandomRunsTest {
    private static final int RUNS = 160;
    private static final int CALLS = 512;
    private static final String[] CALL_NAMES = {
        "parish", "road", "far", "person", "about", "hire", "rated", "wed", "proof", "right", "taken", "settle",
        "maybe", "feed", "text", "force", "offer", "order", "appeal", "unlike", "carry", "house", "price", "frost",
        "heard", "week", "gone", "was", "share", "sink", "owed", "night", "one", "greatest", "master", "bind",
        "run", "choice", "frosts", "plan", "tried", "told", "check", "image", "undo", "count"};

    private final Random random;
    private final ParishUnion x = new ParishUnion();
    private Model m = new Model();
    private Model kept;
    private final List<String> log = new ArrayList<>();
    // What this run does more often than others.
    private final int[] liking = new int[CALL_NAMES.length];
    private final boolean wild;
    private long got;
    private long want;

    private RandomRunsTest(int seed) {
        random = new Random(seed);
        wild = seed % 8 == 0;
        for (int i = 0; i < liking.length; i++) {
            liking[i] = 1 + random.nextInt(1 + random.nextInt(12));
        }
        like("feed", wild ? 2 : 0);
        like("text", 3);
        like("week", 4);
        like("person", 6);
        like("image", 1);
        like("undo", random.nextInt(2));
        like("maybe", 2);
        like("plan", 2);
    }

    private void like(String name, int much) {
        for (int i = 0; i < CALL_NAMES.length; i++) {
            if (CALL_NAMES[i].equals(name)) {
                liking[i] = much;
            }
        }
    }

    public static void main(String[] args) {
        for (int seed = 0; seed < RUNS; seed++) {
            RandomRunsTest run = new RandomRunsTest(seed);
            if (!run.isAsDue()) {
                for (String call : run.log) {
                    System.out.println(call);
                }
                System.out.println("seed " + seed + ": the last call answered " + run.got + ", due is " + run.want);
                System.exit(1);
            }
        }
        System.out.println(RUNS + " random runs are as due");
    }

    private boolean isAsDue() {
        int sum = 0;
        for (int l : liking) {
            sum += l;
        }
        while (log.size() < CALLS) {
            int pick = random.nextInt(sum);
            int op = 0;
            while (pick >= liking[op]) {
                pick -= liking[op];
                op++;
            }
            if (!answersAlike(CALL_NAMES[op])) {
                return false;
            }
        }
        return true;
    }

    private boolean isSaid(String call, long got, long want) {
        log.add(call + " " + got);
        // What calls behind the last one answer is free: a text may still be fed by some.
        if (log.size() > CALLS) {
            return true;
        }
        this.got = got;
        this.want = want;
        return got == want;
    }

    private static final int[] ODD = {-1, -2, -3001, 301, 7, 9, 100, Integer.MAX_VALUE, Integer.MIN_VALUE, 16, 40};

    /** A number from a to b; now and then another one. */
    private int n(int a, int b) {
        int r = random.nextInt(wild ? 12 : 40);
        if (r == 0) {
            return ODD[random.nextInt(ODD.length)];
        }
        if (r == 1) {
            return random.nextBoolean() ? a - 1 : b + 1;
        }
        if (r == 2 || b < a) {
            return random.nextBoolean() ? a : b;
        }
        return a + random.nextInt(b - a + 1);
    }

    private int human() {
        return n(0, m.humans.size() - 1);
    }

    private int e() {
        return random.nextInt(3) > 0 ? -1 : n(-1, m.entries.size());
    }

    private int goneWeek() {
        return n(random.nextBoolean() ? 0 : Math.max(0, m.now() - 6), m.now() - 1);
    }

    private int rightWeek() {
        return random.nextBoolean() ? n(-3000, m.now()) : n(Math.max(-300, m.now() - 300), m.now());
    }

    private boolean answersAlike(String name) {
        switch (name) {
            case "parish": return doParish(n(0, 5), random.nextInt(4) == 0 ? 0 : n(0, 300));
            case "road": { int a = n(0, 5), b = n(0, 5), c = n(1, 9); return isSaid("road(" + a + ", " + b + ", " + c + ")", x.road(a, b, c), m.road(a, b, c)); }
            case "far": { int a = n(0, 5), b = n(0, 5); return isSaid("far(" + a + ", " + b + ")", x.far(a, b), m.far(a, b)); }
            case "person": return doPerson();
            case "about": { int a = human(), b = n(0, 10); return isSaid("about(" + a + ", " + b + ")", x.about(a, b), m.about(a, b)); }
            case "hire": {
                int p = human(), q = n(0, 5), k = n(20, 90), w = rightWeek();
                boolean y = random.nextBoolean(), s = random.nextBoolean();
                return isSaid("hire(" + p + ", " + q + ", " + k + ", " + w + ", " + y + ", " + s + ")", x.hire(p, q, k, w, y, s), m.hire(p, q, k, w, y, s));
            }
            case "rated": {
                int p = human(), q = n(0, 5), k = n(60, 160), w = rightWeek();
                boolean s = random.nextBoolean();
                return isSaid("rated(" + p + ", " + q + ", " + k + ", " + w + ", " + s + ")", x.rated(p, q, k, w, s), m.rated(p, q, k, w, s));
            }
            case "wed": {
                int p = human(), q = human(), w = rightWeek();
                boolean s = random.nextBoolean();
                return isSaid("wed(" + p + ", " + q + ", " + w + ", " + s + ")", x.wed(p, q, w, s), m.wed(p, q, w, s));
            }
            case "proof": { int r = n(0, m.rights.size() - 1); boolean s = random.nextBoolean(); return isSaid("proof(" + r + ", " + s + ")", x.proof(r, s), m.proof(r, s)); }
            case "right": { int r = n(0, m.rights.size() - 1), w = n(0, 5); return isSaid("right(" + r + ", " + w + ")", x.right(r, w), m.right(r, w)); }
            case "taken": { int r = n(0, m.rights.size() - 1), k = n(0, 4); return isSaid("taken(" + r + ", " + k + ")", x.taken(r, k), m.taken(r, k)); }
            case "settle": { int p = human(), b = n(0, 1), w = n(-300, 300), e = e(); return isSaid("settle(" + p + ", " + b + ", " + w + ", " + e + ")", x.settle(p, b, w, e), m.settle(p, b, w, e)); }
            case "maybe": { int p = human(), w = n(-50, 300), e = e(), k = n(0, 1); return isSaid("maybe(" + p + ", " + w + ", " + e + ", " + k + ")", x.maybe(p, w, e, k), m.maybe(p, w, e, k)); }
            case "feed": return doFeed(random.nextLong(), n(1, 8));
            case "text": return doText();
            case "force": { int w = n(0, 300), k = n(0, 19); return isSaid("force(" + w + ", " + k + ")", x.force(w, k), m.force(w, k)); }
            case "offer": { int p = human(), k = n(0, 1); return isSaid("offer(" + p + ", " + k + ")", x.offer(p, k), m.offer(p, k)); }
            case "order": { int p = human(), t = n(0, 5); return isSaid("order(" + p + ", " + t + ")", x.order(p, t), m.order(p, t)); }
            case "appeal": { int o = n(0, m.orders.size() - 1), b = n(0, 1), e = e(); return isSaid("appeal(" + o + ", " + b + ", " + e + ")", x.appeal(o, b, e), m.appeal(o, b, e)); }
            case "unlike": { int e = e(); return isSaid("unlike(" + e + ")", x.unlike(e), m.unlike(e)); }
            case "carry": { int o = n(0, m.orders.size() - 1); return isSaid("carry(" + o + ")", x.carry(o), m.carry(o)); }
            default: return answersHouseAlike(name);
        }
    }

    private boolean answersHouseAlike(String name) {
        switch (name) {
            case "house": { int w = n(0, 4), k = w == 4 ? n(0, 600) : n(0, 6); return isSaid("house(" + w + ", " + k + ")", x.house(w, k), m.house(w, k)); }
            case "price": { int k = n(0, 99); return isSaid("price(" + k + ")", x.price(k), m.price(k)); }
            case "frost": { int w = n(m.now(), m.now() + 20), k = n(0, 9); return isSaid("frost(" + w + ", " + k + ")", x.frost(w, k), m.frost(w, k)); }
            case "heard": { int p = n(0, 5), w = n(0, m.now() + 20); return isSaid("heard(" + p + ", " + w + ")", x.heard(p, w), m.heard(p, w)); }
            case "week": { int k = random.nextInt(12) == 0 ? n(1, 20) : n(1, 4); return isSaid("week(" + k + ")", x.week(k), m.week(k)); }
            case "gone": { int w = goneWeek(), k = n(0, 6); return isSaid("gone(" + w + ", " + k + ")", x.gone(w, k), m.gone(w, k)); }
            case "was": { int p = human(), w = goneWeek(), k = n(0, 3); return isSaid("was(" + p + ", " + w + ", " + k + ")", x.was(p, w, k), m.was(p, w, k)); }
            case "share": { int p = n(0, 5), w = goneWeek(), e = e(); return isSaid("share(" + p + ", " + w + ", " + e + ")", x.share(p, w, e), m.share(p, w, e)); }
            case "sink": { int a = goneWeek(), b = goneWeek(), e = e(); return isSaid("sink(" + a + ", " + b + ", " + e + ")", x.sink(a, b, e), m.sink(a, b, e)); }
            case "owed": { int p = n(0, 5), a = goneWeek(), b = goneWeek(), e = e(); return isSaid("owed(" + p + ", " + a + ", " + b + ", " + e + ")", x.owed(p, a, b, e), m.owed(p, a, b, e)); }
            case "night": { int k = n(0, 7), p = n(0, 5), w = n(0, 300); return isSaid("night(" + k + ", " + p + ", " + w + ")", x.night(k, p, w), m.night(k, p, w)); }
            case "one": { int k = n(0, 255); return isSaid("one(" + k + ")", x.one(k), m.one(k)); }
            case "greatest": return isSaid("greatest()", x.greatest(), m.greatest());
            case "master": { int k = n(0, 3), r = n(0, 9); return isSaid("master(" + k + ", " + r + ")", x.master(k, r), m.master(k, r)); }
            case "bind": { int p = human(), k = n(0, 3); return isSaid("bind(" + p + ", " + k + ")", x.bind(p, k), m.bind(p, k)); }
            case "run": { int p = human(); return isSaid("run(" + p + ")", x.run(p), m.run(p)); }
            case "choice": { int k = n(0, 4), n = n(1, 99), c = random.nextBoolean() ? 5 : n(0, 20); return isSaid("choice(" + k + ", " + n + ", " + c + ")", x.choice(k, n, c), m.choice(k, n, c)); }
            case "frosts": return doFrosts();
            case "plan": { int k = n(0, 1); return isSaid("plan(" + k + ")", x.plan(k), m.plan(k)); }
            case "tried": return doTried();
            case "told": { int p = human(), a = n(0, 8); return isSaid("told(" + p + ", " + a + ")", x.told(p, a), m.told(p, a)); }
            case "check": return doCheck();
            case "image": kept = m.copy(); return isSaid("image()", x.image(), m.now());
            case "undo": {
                if (kept == null) {
                    return isSaid("undo()", x.undo(), -3);
                }
                m = kept.copy();
                return isSaid("undo()", x.undo(), m.now());
            }
            default: { int k = n(0, 13); return isSaid("count(" + k + ")", x.count(k), m.count(k)); }
        }
    }

    private boolean doParish(int p, int r) {
        return isSaid("parish(" + p + ", " + r + ")", x.parish(p, r), m.parish(p, r));
    }

    private boolean doPerson() {
        int sex = n(0, 1);
        int born = random.nextBoolean() ? n(-3000, m.now()) : n(-600, m.now());
        int parish = n(0, 5);
        int father = random.nextBoolean() ? -1 : human();
        int strength = n(0, 9);
        return isSaid("person(" + sex + ", " + born + ", " + parish + ", " + father + ", " + strength + ")",
            x.person(sex, born, parish, father, strength), m.person(sex, born, parish, father, strength));
    }

    private boolean doFeed(long w, int n) {
        return isSaid("feed(" + w + "L, " + n + ")", x.feed(w, n), m.feed(w, n));
    }

    private boolean feedText(String t) {
        for (int i = 0; i < t.length(); i += 8) {
            long w = 0;
            int n = Math.min(8, t.length() - i);
            for (int j = 0; j < n; j++) {
                w = w << 8 | t.charAt(i + j);
            }
            if (!doFeed(w, n)) {
                return false;
            }
        }
        return true;
    }

    private boolean doText() {
        int w = random.nextBoolean() ? n(0, 300) : n(Math.max(0, m.now() - 3), m.now() + 3);
        return feedText(someText()) && isSaid("text(" + w + ")", x.text(w), m.text(w));
    }

    private boolean doTried() {
        int r = n(0, 2);
        int k = n(0, 2);
        return feedText(someText()) && isSaid("tried(" + r + ", " + k + ")", x.tried(r, k), m.tried(r, k));
    }

    private boolean doFrosts() {
        int r = n(0, 2);
        int many = n(1, 10);
        long digits = (long) (random.nextDouble() * Math.pow(10, Math.max(0, Math.min(10, many))));
        if (random.nextInt(12) == 0) {
            digits = random.nextBoolean() ? -1 : digits * 10;
        }
        return isSaid("frosts(" + r + ", " + digits + "L, " + many + ")", x.frosts(r, digits, many), m.frosts(r, digits, many));
    }

    /** Tells what was first, half of the time, so that some WEEKS are RIGHT. */
    private boolean doCheck() {
        int w = goneWeek();
        if (m.past(w) && random.nextBoolean()) {
            for (int p = 0; p < m.weeks.get(w).at.size() - random.nextInt(2); p++) {
                int at = m.weeks.get(w).at.get(p);
                if (!isSaid("told(" + p + ", " + at + ")", x.told(p, at), m.told(p, at))) {
                    return false;
                }
            }
        }
        return isSaid("check(" + w + ")", x.check(w), m.check(w));
    }

    private String someText() {
        StringBuilder t = new StringBuilder();
        int many = random.nextInt(10) == 0 ? 9 : 1 + random.nextInt(4);
        for (int i = 0; i < many; i++) {
            t.append(i == 0 ? "" : ";").append(someClause());
        }
        if (random.nextInt(4) == 0 && t.length() > 0) {
            int i = random.nextInt(t.length());
            switch (random.nextInt(3)) {
                case 0: t.deleteCharAt(i); break;
                case 1: t.insert(i, "!(;)&|<0 9o=".charAt(random.nextInt(12))); break;
                default: t.setCharAt(i, (char) random.nextInt(256)); break;
            }
        }
        return t.toString();
    }

    private String someClause() {
        String[] plain = {"hired " + random.nextInt(120), "rated " + random.nextInt(200), "diet " + random.nextInt(15),
            "fear " + random.nextInt(9), "bind " + random.nextInt(40), random.nextBoolean() ? "wed y" : "wed n",
            random.nextBoolean() ? "kin y" : "kin n", "share " + "rhe".charAt(random.nextInt(3))};
        int k = random.nextInt(14);
        if (k < 8) {
            return plain[k];
        }
        if (k < 11) {
            return "give " + random.nextInt(random.nextBoolean() ? 20 : 12000) + " " + someCondition(0);
        }
        return "ward " + random.nextInt(4) + " " + someCondition(0);
    }

    private String someCondition(int depth) {
        int k = random.nextInt(depth > 7 ? 7 : 12);
        switch (k) {
            case 0: return "o";
            case 1: return "a" + "<>".charAt(random.nextInt(2)) + random.nextInt(70);
            case 2: return "g" + "<>".charAt(random.nextInt(2)) + random.nextInt(10);
            case 3: return "h" + "<>".charAt(random.nextInt(2)) + random.nextInt(20);
            case 4: return "f" + "<>".charAt(random.nextInt(2)) + random.nextInt(10);
            case 5: return "s=" + random.nextInt(3);
            case 6: return "p=" + random.nextInt(9);
            case 7: case 8: return "!" + someCondition(depth + 1);
            case 9: return "(" + someCondition(depth + 1) + ")";
            case 10: return someCondition(depth + 1) + "&" + someCondition(depth + 1);
            default: return someCondition(depth + 1) + "|" + someCondition(depth + 1);
        }
    }
}
