import java.io.ByteArrayInputStream;
import java.io.ByteArrayOutputStream;
import java.io.IOException;
import java.io.ObjectInputStream;
import java.io.ObjectOutputStream;
import java.io.Serializable;
import java.util.ArrayList;
import java.util.Arrays;
import java.util.Comparator;
import java.util.HashSet;
import java.util.List;
import java.util.Set;
import java.util.TreeSet;

/**
 * The document once more, told as plainly as can be and without regard to speed or room, in other
 * ways than the class tells it: for random runs of calls that are compared.
 */
final class Model implements Serializable {
    private static final long serialVersionUID = 1L;
    static final int NONE = -1, BAD = -2, STATE = -3, FULL = -4;

    record Road(int a, int b, int weeks) implements Serializable { }
    record Clause(int word, int n, String e) implements Serializable { }
    record Law(int week, List<Clause> clauses) implements Serializable { }
    record Entry(int right, int told) implements Serializable { } // told: 0 told, 1 proved, 2 disproved
    record RightOf(int kind, int person, int place, int n, int week, boolean sure) implements Serializable { }
    record Night(int name, int parish, int week) implements Serializable { }
    record Choice(int k, int n, int cost) implements Serializable { }

    static final class Human implements Serializable {
        private static final long serialVersionUID = 1L;
        int sex, born, birth, father, strength, at, hunger, ill, ward = NONE, master = NONE, from = NONE, told;
    }

    static final class Removal implements Serializable {
        private static final long serialVersionUID = 1L;
        int person, from, to, week;
        boolean carried;
    }

    static final class Week implements Serializable {
        private static final long serialVersionUID = 1L;
        int refused, died, dead;
        List<Integer> at = new ArrayList<>();
        List<Integer> eaten = new ArrayList<>();
        List<Integer> given = new ArrayList<>();
        Set<Integer> asked = new TreeSet<>();
    }

    int[] rents = {100, 100, 100, 100, 100, 100};
    ArrayList<Road> roads = new ArrayList<>();
    ArrayList<Human> humans = new ArrayList<>();
    ArrayList<RightOf> rights = new ArrayList<>();
    ArrayList<Entry> entries = new ArrayList<>();
    String tape = "";
    ArrayList<Law> acts = new ArrayList<>();
    ArrayList<Removal> orders = new ArrayList<>();
    int[] beds = {2, 2, 2, 2};
    int store;
    int price = 1;
    int[] frost = new int[301];
    ArrayList<Week> weeks = new ArrayList<>();
    ArrayList<Night> nights = new ArrayList<>();
    int[] rooms = new int[4];
    ArrayList<Choice> choices = new ArrayList<>();
    String[] rows = {"", "", ""};

    Model copy() {
        try {
            ByteArrayOutputStream out = new ByteArrayOutputStream();
            try (ObjectOutputStream o = new ObjectOutputStream(out)) {
                o.writeObject(this);
            }
            return (Model) new ObjectInputStream(new ByteArrayInputStream(out.toByteArray())).readObject();
        } catch (IOException | ClassNotFoundException e) {
            throw new IllegalStateException(e);
        }
    }

    int now() {
        return weeks.size();
    }

    static boolean in(long n, long a, long b) {
        return a <= n && n <= b;
    }

    boolean par(int p) {
        return in(p, 0, 5);
    }

    boolean hum(int p) {
        return in(p, 0, humans.size() - 1);
    }

    boolean ent(int e) {
        return in(e, -1, entries.size());
    }

    boolean past(int w) {
        return in(w, 0, now() - 1);
    }

    // ---- parishes, persons

    int parish(int p, int r) {
        if (!par(p)) return NONE;
        if (!in(r, 0, 9999)) return BAD;
        int old = rents[p];
        rents[p] = r;
        return old;
    }

    int[][] fars() {
        int[][] d = new int[6][6];
        for (int[] row : d) Arrays.fill(row, 99);
        for (int i = 0; i < 6; i++) d[i][i] = 0;
        for (Road r : roads) {
            d[r.a][r.b] = Math.min(d[r.a][r.b], r.weeks);
            d[r.b][r.a] = Math.min(d[r.b][r.a], r.weeks);
        }
        for (int k = 0; k < 6; k++)
            for (int i = 0; i < 6; i++)
                for (int j = 0; j < 6; j++) d[i][j] = Math.min(d[i][j], d[i][k] + d[k][j]);
        return d;
    }

    int road(int a, int b, int w) {
        if (!par(a) || !par(b)) return NONE;
        if (a == b || !in(w, 1, 9)) return BAD;
        int[][] old = fars();
        roads.add(new Road(a, b, w));
        return Arrays.deepEquals(old, fars()) ? 0 : 1;
    }

    int far(int a, int b) {
        if (!par(a) || !par(b)) return NONE;
        return fars()[a][b];
    }

    int person(int sex, int born, int parish, int father, int strength) {
        if (!par(parish) || (father != -1 && !hum(father))) return NONE;
        if (!in(sex, 0, 1) || !in(born, -3000, now()) || !in(strength, 0, 9)) return BAD;
        if (father != -1) {
            Human f = humans.get(father);
            if (f.sex == 1 || f.born >= born) return BAD;
        }
        if (humans.size() == 16) return FULL;
        Human h = new Human();
        h.sex = sex;
        h.born = born;
        h.birth = parish;
        h.at = parish;
        h.father = father;
        h.strength = strength;
        humans.add(h);
        return humans.size() - 1;
    }

    int about(int p, int what) {
        if (!hum(p) || !in(what, 0, 10)) return NONE;
        Human h = humans.get(p);
        return new int[] {h.sex, h.born, h.birth, h.father, h.strength, h.at, h.hunger, h.ill,
            h.at == 6 ? h.ward : NONE, h.at == 7 ? h.master : NONE, h.at == 6 ? h.from : NONE}[what];
    }

    // ---- rights

    int tell(RightOf r) {
        if (rights.size() == 40 || entries.size() == 80) return FULL;
        rights.add(r);
        entries.add(new Entry(rights.size() - 1, 0));
        return rights.size() - 1;
    }

    int hire(int p, int parish, int n, int week, boolean yearly, boolean sure) {
        if (!hum(p) || !par(parish)) return NONE;
        if (!in(n, 1, 200) || !in(week, -3000, now())) return BAD;
        return tell(new RightOf(yearly ? 4 : 1, p, parish, n, week, sure));
    }

    int rated(int p, int parish, int n, int week, boolean sure) {
        if (!hum(p) || !par(parish)) return NONE;
        if (!in(n, 1, 9999) || !in(week, -3000, now())) return BAD;
        return tell(new RightOf(2, p, parish, n, week, sure));
    }

    int wed(int woman, int man, int week, boolean sure) {
        if (!hum(woman) || !hum(man)) return NONE;
        if (humans.get(woman).sex == 0 || humans.get(man).sex == 1 || !in(week, -3000, now())) return BAD;
        return tell(new RightOf(3, woman, man, 0, week, sure));
    }

    /** 0 MAY, 1 SURE, 2 not so, 3 not told. */
    int held(int right, int e) {
        int upTo = e == -1 ? entries.size() : e;
        int h = 3;
        for (Entry x : entries.subList(0, upTo))
            if (x.right == right) h = x.told == 0 ? (rights.get(right).sure ? 1 : 0) : x.told;
        return h;
    }

    int proof(int right, boolean so) {
        if (!in(right, 0, rights.size() - 1)) return NONE;
        boolean was = entries.stream().anyMatch(x -> x.right == right && x.told != 0);
        if (was || (so && rights.get(right).sure)) return STATE;
        if (entries.size() == 80) return FULL;
        entries.add(new Entry(right, so ? 1 : 2));
        return entries.size();
    }

    int right(int right, int what) {
        if (!in(right, 0, rights.size() - 1) || !in(what, 0, 5)) return NONE;
        RightOf r = rights.get(right);
        return new int[] {r.kind, r.person, r.place, r.n, r.week, held(right, -1)}[what];
    }

    int taken(int right, int k) {
        if (!in(right, 0, rights.size() - 1) || !in(k, 0, 4)) return NONE;
        RightOf r = rights.get(right);
        if (k != 0 && k != r.kind && !(k == 1 && r.kind == 4)) return -6;
        return r.kind == 4 ? r.n * 2 : r.n;
    }

    /** From birth on, RIGHT by RIGHT. */
    int whose(int p, int w, int e, Set<Integer> so) {
        Human h = humans.get(p);
        if (w < h.born) return -5;
        int is = h.birth;
        if (law(6, 0) == 1 && h.father != -1) {
            int his = whose(h.father, h.born, e, so);
            if (his != -5) is = his;
        }
        List<Integer> mine = new ArrayList<>();
        for (int i = 0; i < rights.size(); i++) if (rights.get(i).person == p && rights.get(i).week <= w) mine.add(i);
        mine.sort(Comparator.comparingInt((Integer i) -> rights.get(i).week).thenComparingInt(i -> i));
        for (int i : mine) {
            RightOf r = rights.get(i);
            int held = held(i, e);
            if (held != 1 && !(held == 0 && so.contains(i))) continue;
            int lawWeek = r.week < 0 ? 0 : r.week;
            switch (r.kind) {
                case 1: if (law(0, lawWeek) <= r.n) is = r.place; break;
                case 4: if (law(0, lawWeek) <= 2 * r.n) is = r.place; break;
                case 2: if (law(1, lawWeek) <= r.n) is = r.place; break;
                default: if (law(5, lawWeek) == 1) is = whose(r.place, r.week, e, so); break;
            }
        }
        return is;
    }

    int byBench(int p, int bench, int w, int e) {
        Set<Integer> all = new HashSet<>();
        if (bench == 1) for (int i = 0; i < rights.size(); i++) all.add(i);
        return whose(p, w, e, all);
    }

    int settle(int p, int bench, int w, int e) {
        if (!hum(p) || !in(bench, 0, 1) || !ent(e)) return NONE;
        if (!in(w, -3000, 300)) return BAD;
        return byBench(p, bench, w, e);
    }

    /** MAYBE with some RIGHTS fixed as so, some as not so, and others both ways. */
    Set<Integer> maybes(int p, int w, int e, List<Integer> open, Set<Integer> so) {
        Set<Integer> found = new TreeSet<>();
        if (open.isEmpty()) {
            int is = whose(p, w, e, so);
            if (is != -5) found.add(is);
            return found;
        }
        List<Integer> rest = open.subList(1, open.size());
        Set<Integer> with = new HashSet<>(so);
        with.add(open.get(0));
        found.addAll(maybes(p, w, e, rest, so));
        found.addAll(maybes(p, w, e, rest, with));
        return found;
    }

    int maybe(int p, int w, int e, int what) {
        if (!hum(p) || !ent(e) || !in(what, 0, 1)) return NONE;
        if (!in(w, -3000, 300)) return BAD;
        List<Integer> open = new ArrayList<>();
        for (int i = 0; i < rights.size() && open.size() < 10; i++) if (held(i, e) == 0) open.add(i);
        Set<Integer> all = maybes(p, w, e, open, Set.of());
        if (what == 0) {
            int bits = 0;
            for (int i : all) bits |= 1 << i;
            return bits;
        }
        if (all.size() <= 1) return -5;
        int best = -5, least = 100;
        for (int r : open) {
            List<Integer> others = new ArrayList<>(open);
            others.remove((Integer) r);
            int g = Math.max(maybes(p, w, e, others, Set.of()).size(), maybes(p, w, e, others, Set.of(r)).size());
            if (g < least) {
                least = g;
                best = r;
            }
        }
        return best;
    }

    // ---- acts

    int feed(long w, int n) {
        if (!in(n, 1, 8)) return BAD;
        if (tape.length() + n > 150) return FULL;
        StringBuilder more = new StringBuilder();
        for (int i = 0; i < n; i++) more.insert(0, (char) (w >> (8 * i) & 255));
        tape += more;
        return tape.length();
    }

    static final String[] NAMES = {"hired", "rated", "diet", "fear", "bind", "wed", "kin", "share", "give", "ward"};

    /** What a symbol of the grammar may be in its place; upper case ones have a depth or number behind them. */
    static List<String[]> rules(String s) {
        int d = s.length() > 1 ? s.charAt(1) - '0' : 0;
        List<String[]> r = new ArrayList<>();
        switch (s.charAt(0)) {
            case 'A': // d CLAUSES at most
                r.add(new String[] {"C", "B" + (d - 1)});
                break;
            case 'B':
                r.add(new String[] {});
                if (d > 0) r.add(new String[] {";", "A" + d});
                break;
            case 'C':
                for (int i = 0; i < 10; i++) {
                    String part = i < 5 || i == 8 ? "N4" : i < 7 ? "Y" : i == 7 ? "S" : "K";
                    List<String> l = new ArrayList<>(Arrays.asList(NAMES[i].split("")));
                    l.add(" ");
                    l.add(part);
                    if (i >= 8) {
                        l.add(" ");
                        l.add("E0");
                    }
                    r.add(l.toArray(new String[0]));
                }
                break;
            case 'N':
                r.add(new String[] {"0"});
                for (char c = '1'; c <= '9'; c++) r.add(new String[] {"" + c, "D" + (d - 1)});
                break;
            case 'D':
                r.add(new String[] {});
                if (d > 0) for (char c = '0'; c <= '9'; c++) r.add(new String[] {"" + c, "D" + (d - 1)});
                break;
            case 'Y': oneOf(r, "yn"); break;
            case 'S': oneOf(r, "rhe"); break;
            case 'K': oneOf(r, "0123"); break;
            case 'E':
                r.add(new String[] {"T" + d, "X" + d});
                break;
            case 'X':
                r.add(new String[] {});
                r.add(new String[] {"|", "E" + d});
                break;
            case 'T':
                r.add(new String[] {"F" + d, "Z" + d});
                break;
            case 'Z':
                r.add(new String[] {});
                r.add(new String[] {"&", "T" + d});
                break;
            default: // F
                if (d < 6) {
                    r.add(new String[] {"!", "F" + (d + 1)});
                    r.add(new String[] {"(", "E" + (d + 1), ")"});
                }
                r.add(new String[] {"o"});
                for (String l : new String[] {"a", "g", "h", "f"}) {
                    r.add(new String[] {l, "<", "N2"});
                    r.add(new String[] {l, ">", "N2"});
                }
                for (String l : new String[] {"s", "p"})
                    for (char c = '0'; c <= '9'; c++) r.add(new String[] {l, "=", "" + c});
        }
        return r;
    }

    private static void oneOf(List<String[]> r, String signs) {
        for (char c : signs.toCharArray()) r.add(new String[] {"" + c});
    }

    /** All ways in which the text may go on, as lists of symbols; -1: an ACT, else the FAULT. */
    static int fault(String text) {
        Set<List<String>> ways = Set.of(List.of("A8"));
        for (int i = 0; i < text.length(); i++) {
            Set<List<String>> next = new HashSet<>();
            for (List<String> w : ways) step(w, text.charAt(i), next);
            if (next.isEmpty()) return i;
            ways = next;
        }
        for (List<String> w : ways) if (maybeEmpty(w)) return -1;
        return text.length();
    }

    private static boolean maybeEmpty(List<String> w) {
        for (String s : w) if ("BDXZ".indexOf(s.charAt(0)) < 0) return false;
        return true;
    }

    private static void step(List<String> way, char c, Set<List<String>> next) {
        if (way.isEmpty()) return;
        String s = way.get(0);
        List<String> rest = way.subList(1, way.size());
        if (!Character.isUpperCase(s.charAt(0))) {
            if (s.charAt(0) == c) next.add(new ArrayList<>(rest));
            return;
        }
        for (String[] rule : rules(s)) {
            List<String> w = new ArrayList<>(Arrays.asList(rule));
            w.addAll(rest);
            step(w, c, next);
        }
    }

    static Law lawOf(String text, int week) {
        List<Clause> list = new ArrayList<>();
        for (String c : text.split(";")) {
            String[] part = c.split(" ");
            int word = Arrays.asList(NAMES).indexOf(part[0]);
            int n = word == 5 || word == 6 ? (part[1].equals("y") ? 1 : 0)
                : word == 7 ? "rhe".indexOf(part[1]) : Integer.parseInt(part[1]);
            list.add(new Clause(word, n, word >= 8 ? part[2] : ""));
        }
        return new Law(week, list);
    }

    int text(int week) {
        if (!in(week, 0, 300)) return BAD;
        if (acts.size() == 10) return FULL;
        String t = tape;
        tape = "";
        int f = fault(t);
        if (f >= 0) return -10 - f;
        acts.add(lawOf(t, week));
        return acts.size() - 1;
    }

    int actOf(int word, int week) {
        int best = -1;
        for (int w = 0; w <= week; w++)
            for (int i = 0; i < acts.size(); i++)
                if (acts.get(i).week == w && acts.get(i).clauses.stream().anyMatch(c -> c.word == word)) best = i;
        return best;
    }

    List<Clause> clauses(int word, int week) {
        int a = actOf(word, week);
        if (a < 0) return List.of();
        return acts.get(a).clauses.stream().filter(c -> c.word == word).toList();
    }

    int law(int word, int week) {
        List<Clause> list = clauses(word, week);
        if (word >= 8) return list.size();
        return list.isEmpty() ? new int[] {50, 100, 10, 5, 14, 1, 1, 0}[word] : list.get(list.size() - 1).n;
    }

    int force(int week, int what) {
        if (!in(what, 0, 19)) return NONE;
        if (!in(week, 0, 300)) return BAD;
        return what < 10 ? law(what, week) : actOf(what - 10, week);
    }

    /** E by its last | (or &) that stands in no brackets. */
    boolean holds(String e, int p, int week) {
        for (char op : new char[] {'|', '&'}) {
            int depth = 0;
            for (int i = e.length() - 1; i >= 0; i--) {
                char c = e.charAt(i);
                if (c == ')') depth++;
                if (c == '(') depth--;
                if (depth == 0 && c == op) {
                    boolean a = holds(e.substring(0, i), p, week);
                    boolean b = holds(e.substring(i + 1), p, week);
                    return op == '|' ? a || b : a && b;
                }
            }
        }
        if (e.charAt(0) == '!') return !holds(e.substring(1), p, week);
        if (e.charAt(0) == '(') return holds(e.substring(1, e.length() - 1), p, week);
        Human h = humans.get(p);
        if (e.equals("o")) return h.at < 6 && byBench(p, 1, week, -1) == h.at;
        int value = switch (e.charAt(0)) {
            case 'a' -> Math.floorDiv(week - h.born, 50);
            case 'g' -> h.strength;
            case 'h' -> h.hunger;
            case 'f' -> frost[week];
            case 's' -> h.sex;
            default -> h.at;
        };
        int n = Integer.parseInt(e.substring(2));
        return e.charAt(1) == '<' ? value < n : e.charAt(1) == '>' ? value > n : value == n;
    }

    /** null: no CLAUSE's E holds. */
    Clause first(int word, int p) {
        for (Clause c : clauses(word, now())) if (holds(c.e, p, now())) return c;
        return null;
    }

    int wardFor(int p) {
        if (clauses(9, now()).isEmpty()) return 0;
        Clause c = first(9, p);
        return c == null ? -5 : c.n;
    }

    int offer(int p, int what) {
        if (!hum(p) || !in(what, 0, 1)) return NONE;
        if (what == 1) return wardFor(p);
        Clause c = first(8, p);
        return c == null ? 0 : c.n;
    }

    // ---- orders

    int order(int p, int to) {
        if (!hum(p) || !par(to)) return NONE;
        Human h = humans.get(p);
        if (h.at == to) return BAD;
        if (h.at > 5) return STATE;
        if (orders.size() == 20) return FULL;
        Removal r = new Removal();
        r.person = p;
        r.from = h.at;
        r.to = to;
        r.week = now();
        orders.add(r);
        return orders.size() - 1;
    }

    int appeal(int o, int bench, int e) {
        if (!in(o, 0, orders.size() - 1) || !in(bench, 0, 1) || !ent(e)) return NONE;
        Removal r = orders.get(o);
        return byBench(r.person, bench, r.week, e) == r.to ? 1 : 0;
    }

    int unlike(int e) {
        if (!ent(e)) return NONE;
        int bits = 0;
        for (int o = 0; o < orders.size(); o++) if (appeal(o, 0, e) + appeal(o, 1, e) == 1) bits += 1 << o;
        return bits;
    }

    int carry(int o) {
        if (!in(o, 0, orders.size() - 1)) return NONE;
        Removal r = orders.get(o);
        if (r.carried || humans.get(r.person).at != r.from) return STATE;
        r.carried = true;
        humans.get(r.person).at = r.to;
        return r.to;
    }

    // ---- the house

    int house(int ward, int n) {
        if (!in(ward, 0, 4)) return NONE;
        if (!in(n, 0, ward == 4 ? 9999 : 20)) return BAD;
        int old;
        if (ward == 4) {
            old = store;
            store = n;
        } else {
            old = beds[ward];
            beds[ward] = n;
        }
        return old;
    }

    int price(int n) {
        if (!in(n, 0, 99)) return BAD;
        int old = price;
        price = n;
        return old;
    }

    int frost(int w, int n) {
        if (!in(w, 0, 300) || !in(n, 0, 9)) return BAD;
        if (w < now()) return STATE;
        int old = frost[w];
        frost[w] = n;
        return old;
    }

    int heard(int p, int w) {
        if (!par(p)) return NONE;
        if (!in(w, 0, 300)) return BAD;
        int d = fars()[0][p];
        if (d == 99) return 0;
        int sum = 0;
        for (int v = 0; v < now(); v++) if (v + d + 1 <= w) sum += weeks.get(v).refused + weeks.get(v).died;
        return sum;
    }

    int lodgers(int ward) {
        return (int) humans.stream().filter(h -> h.at == 6 && h.ward == ward).count();
    }

    void goBy() {
        int w = now();
        Week x = new Week();
        int[] eaten = new int[humans.size()];
        int[] given = new int[humans.size()];
        for (int i = 0; i < humans.size(); i++) {
            Human h = humans.get(i);
            if (h.at > 5) continue;
            h.hunger = Math.max(0, h.hunger + 1 + frost[w] / 3 - h.strength / 4);
            Clause c = first(8, i);
            if (c != null) {
                given[i] = c.n;
                h.hunger = Math.max(0, h.hunger - 2);
            }
        }
        for (int i = 0; i < humans.size(); i++) {
            Human h = humans.get(i);
            if (h.at > 5 || h.hunger <= law(3, w) + heard(h.at, w)) continue;
            x.asked.add(i);
            int ward = wardFor(i);
            if (ward == -5 || lodgers(ward) >= beds[ward]) {
                x.refused++;
            } else {
                h.from = h.at;
                h.at = 6;
                h.ward = ward;
            }
        }
        for (int i = 0; i < humans.size(); i++) {
            Human h = humans.get(i);
            if (h.at != 6) continue;
            int diet = law(2, w);
            if (store >= diet) {
                store -= diet;
                eaten[i] = diet;
                h.hunger = Math.max(0, h.hunger - 3);
            } else {
                h.hunger += 2;
            }
        }
        for (Human h : humans) {
            if (h.at != 6) continue;
            if (lodgers(h.ward) > beds[h.ward] / 2.0 && h.strength < frost[w]) h.ill++;
            else if (h.ill > 0) h.ill--;
        }
        for (Human h : humans) {
            if (h.at == 7 || h.at == 8) continue;
            if (h.hunger >= 20 || h.ill == 5) {
                x.dead++;
                if (h.at == 6) x.died++;
                h.at = 8;
            }
        }
        for (Human h : humans)
            if (h.at == 6 && h.hunger == 0 && h.strength >= 5 && frost[w] < 4) h.at = h.from;
        for (int i = 0; i < humans.size(); i++) {
            humans.get(i).hunger = Math.min(30, humans.get(i).hunger);
            x.at.add(humans.get(i).at);
            x.eaten.add(eaten[i]);
            x.given.add(given[i]);
        }
        weeks.add(x);
    }

    int week(int n) {
        if (!in(n, 1, 20) || now() + n > 300) return BAD;
        for (int i = 0; i < n; i++) goBy();
        return now();
    }

    static int sum(List<Integer> l) {
        return l.stream().mapToInt(i -> i).sum();
    }

    int cost(int w) {
        return sum(weeks.get(w).eaten) * price + sum(weeks.get(w).given);
    }

    int gone(int w, int what) {
        if (!past(w) || !in(what, 0, 6)) return NONE;
        Week x = weeks.get(w);
        return new int[] {sum(x.eaten), sum(x.given), x.refused, x.died, x.dead, x.asked.size(), cost(w)}[what];
    }

    int was(int p, int w, int what) {
        if (!hum(p) || !past(w) || !in(what, 0, 3)) return NONE;
        Week x = weeks.get(w);
        if (p >= x.at.size()) return NONE;
        return new int[] {x.at.get(p), x.eaten.get(p), x.given.get(p), x.asked.contains(p) ? 1 : 0}[what];
    }

    int[] shares(int w, int e) {
        long[] weight = new long[6];
        switch (law(7, w)) {
            case 0: for (int i = 0; i < 6; i++) weight[i] = rents[i]; break;
            case 1:
                for (int p = 0; p < weeks.get(w).at.size(); p++)
                    if (weeks.get(w).eaten.get(p) + weeks.get(w).given.get(p) > 0) {
                        int is = byBench(p, 1, w, e);
                        if (is != -5) weight[is]++;
                    }
                break;
            default: Arrays.fill(weight, 1);
        }
        if (Arrays.stream(weight).sum() == 0) Arrays.fill(weight, 1);
        long all = Arrays.stream(weight).sum();
        long cost = cost(w);
        int[] share = new int[6];
        List<Integer> order = new ArrayList<>(List.of(0, 1, 2, 3, 4, 5));
        order.sort(Comparator.comparingLong((Integer i) -> -(cost * weight[i] % all)).thenComparingInt(i -> i));
        for (int i = 0; i < 6; i++) share[i] = (int) (cost * weight[i] / all);
        int left = (int) cost - Arrays.stream(share).sum();
        for (int i = 0; i < left; i++) share[order.get(i)]++;
        return share;
    }

    int share(int p, int w, int e) {
        if (!par(p) || !past(w) || !ent(e)) return NONE;
        return shares(w, e)[p];
    }

    int sink(int from, int to, int e) {
        if (!past(from) || !past(to) || !ent(e)) return NONE;
        if (from > to) return BAD;
        for (int p = 0; p < 6; p++) {
            long all = 0;
            for (int w = from; w <= to; w++) all += shares(w, e)[p];
            if (all > rents[p]) return p;
        }
        return -5;
    }

    int owed(int p, int from, int to, int e) {
        if (!par(p) || !past(from) || !past(to) || !ent(e)) return NONE;
        if (from > to) return BAD;
        int all = 0;
        for (int w = from; w <= to; w++)
            for (int i = 0; i < weeks.get(w).at.size(); i++)
                if (byBench(i, 1, w, e) == p) all += weeks.get(w).eaten.get(i) * price;
        return all;
    }

    // ---- vagrants, children

    int night(int name, int parish, int week) {
        if (!par(parish)) return NONE;
        if (!in(name, 0, 7) || !in(week, 0, 300)) return BAD;
        if (nights.size() == 40) return FULL;
        nights.add(new Night(name, parish, week));
        return nights.size();
    }

    int one(int names) {
        if (!in(names, 0, 255)) return BAD;
        List<Night> mine = nights.stream().filter(n -> (names >> n.name & 1) == 1)
            .sorted(Comparator.comparingInt(Night::week)).toList();
        int[][] d = fars();
        for (int i = 0; i + 1 < mine.size(); i++) {
            int far = d[mine.get(i).parish][mine.get(i + 1).parish];
            if (far == 99 || mine.get(i + 1).week - mine.get(i).week < far) return 0;
        }
        return 1;
    }

    int greatest() {
        int best = 0;
        for (int set = 255; set > 0; set--) {
            int s = set;
            boolean all = true;
            for (int n = 0; n < 8; n++) {
                int name = n;
                if ((s >> n & 1) == 1 && nights.stream().noneMatch(x -> x.name == name)) all = false;
            }
            int many = Integer.bitCount(set);
            if (all && many >= 2 && many >= Integer.bitCount(best) && one(set) == 1) best = set;
        }
        return best;
    }

    int bound(int master) {
        return (int) humans.stream().filter(h -> h.at == 7 && h.master == master).count();
    }

    int master(int m, int room) {
        if (!in(m, 0, 3)) return NONE;
        if (!in(room, 0, 9) || room < bound(m)) return BAD;
        int old = rooms[m];
        rooms[m] = room;
        return old;
    }

    int bind(int p, int m) {
        if (!hum(p) || !in(m, 0, 3)) return NONE;
        Human h = humans.get(p);
        if (h.at > 6 || (now() - h.born) / 50 >= law(4, now()) || bound(m) >= rooms[m]) return STATE;
        h.at = 7;
        h.master = m;
        return bound(m);
    }

    int run(int p) {
        if (!hum(p)) return NONE;
        Human h = humans.get(p);
        if (h.at != 7) return STATE;
        h.at = h.birth;
        return h.at;
    }

    // ---- choices, tries

    int choice(int k, int n, int cost) {
        if (!in(k, 0, 4)) return NONE;
        if (!in(n, 1, 99) || !in(cost, 0, 999)) return BAD;
        if (choices.size() == 6) return FULL;
        choices.add(new Choice(k, n, cost));
        return choices.size() - 1;
    }

    int frosts(int row, long digits, int many) {
        if (!in(row, 0, 2)) return NONE;
        if (!in(many, 1, 10) || digits < 0 || Long.toString(digits).length() > many) return BAD;
        rows[row] = "0".repeat(many - Long.toString(digits).length()) + digits;
        return many;
    }

    void winter(int row) {
        for (int i = 0; i < rows[row].length(); i++) frost[now() + i] = rows[row].charAt(i) - '0';
        for (int i = 0; i < rows[row].length(); i++) goBy();
    }

    int plan(int what) {
        if (!in(what, 0, 1)) return NONE;
        boolean some = false;
        for (String r : rows) {
            if (now() + r.length() > 300) return STATE;
            some |= !r.isEmpty();
        }
        if (!some) return STATE;
        int best = -5, bestCost = 0;
        for (int set = 0; set < 1 << choices.size(); set++) {
            boolean well = true;
            int cost = 0;
            for (int i = 0; i < choices.size(); i++) if ((set >> i & 1) == 1) cost += choices.get(i).cost;
            for (int row = 0; row < 3 && well; row++) {
                if (rows[row].isEmpty()) continue;
                Model m = copy();
                for (int i = 0; i < choices.size(); i++) {
                    if ((set >> i & 1) == 0) continue;
                    Choice c = choices.get(i);
                    if (c.k == 4) m.store = Math.min(9999, m.store + c.n);
                    else m.beds[c.k] = Math.min(99, m.beds[c.k] + c.n);
                }
                m.winter(row);
                for (Week w : m.weeks.subList(now(), m.now())) well &= w.refused == 0 && w.dead == 0;
            }
            if (!well) continue;
            boolean better = best == -5 || cost < bestCost
                || (cost == bestCost && Integer.bitCount(set) < Integer.bitCount(best));
            if (better) {
                best = set;
                bestCost = cost;
            }
        }
        return best == -5 || what == 0 ? best : bestCost;
    }

    int tried(int row, int what) {
        if (!in(row, 0, 2) || !in(what, 0, 2) || rows[row].isEmpty()) return NONE;
        if (now() + rows[row].length() > 300) return STATE;
        String t = tape;
        tape = "";
        int f = fault(t);
        if (f >= 0) return -10 - f;
        Model m = copy();
        m.acts.add(lawOf(t, now()));
        m.winter(row);
        int all = 0;
        for (int w = now(); w < m.now(); w++)
            all += what == 0 ? m.weeks.get(w).dead : what == 1 ? m.weeks.get(w).refused : m.cost(w);
        return all;
    }

    // ---- a told week (the image is the caller's)

    int told(int p, int at) {
        if (!hum(p)) return NONE;
        if (!in(at, 0, 8)) return BAD;
        int old = humans.get(p).told;
        humans.get(p).told = at;
        return old;
    }

    int check(int w) {
        if (!past(w)) return NONE;
        List<Integer> at = weeks.get(w).at;
        for (int p = 0; p < at.size(); p++) if (at.get(p) != humans.get(p).told) return p;
        return -5;
    }

    int count(int what) {
        if (!in(what, 0, 13)) return NONE;
        int[] at = new int[9];
        for (Human h : humans) at[h.at]++;
        return new int[] {humans.size(), rights.size(), entries.size(), acts.size(), orders.size(), now(),
            tape.length(), at[6], at[8], at[7], nights.size(), choices.size(), store, price}[what];
    }
}
