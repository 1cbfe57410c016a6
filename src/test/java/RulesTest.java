import java.io.IOException;
import java.lang.reflect.Constructor;
import java.lang.reflect.Field;
import java.lang.reflect.Method;
import java.lang.reflect.Modifier;
import java.nio.file.Files;
import java.nio.file.Path;
import java.util.ArrayList;
import java.util.Arrays;
import java.util.List;
import java.util.Set;
import java.util.TreeSet;
import java.util.regex.Matcher;
import java.util.regex.Pattern;

/** The face of the class, and what of the rules of LANGUAGE.md can be seen by a simple look. */
public final class RulesTest {
    private static final String SOURCE = "src/main/java/ParishUnion.java";
    private static final String[] FACE = {
        "parish(int,int)", "road(int,int,int)", "far(int,int)", "person(int,int,int,int,int)", "about(int,int)",
        "hire(int,int,int,int,boolean,boolean)", "rated(int,int,int,int,boolean)", "wed(int,int,int,boolean)",
        "proof(int,boolean)", "right(int,int)", "taken(int,int)", "settle(int,int,int,int)", "maybe(int,int,int,int)",
        "feed(long,int)", "text(int)", "force(int,int)", "offer(int,int)", "order(int,int)", "appeal(int,int,int)",
        "unlike(int)", "carry(int)", "house(int,int)", "price(int)", "frost(int,int)", "heard(int,int)", "week(int)",
        "gone(int,int)", "was(int,int,int)", "share(int,int,int)", "sink(int,int,int)", "owed(int,int,int,int)",
        "night(int,int,int)", "one(int)", "greatest()", "master(int,int)", "bind(int,int)", "run(int)",
        "choice(int,int,int)", "frosts(int,long,int)", "plan(int)", "tried(int,int)", "told(int,int)", "check(int)",
        "image()", "undo()", "count(int)"};
    private static final String[] BANNED = {
        "\\bthrow\\b", "\\btry\\b", "\\bcatch\\b", "\\bsynchronized\\b", "\\bassert\\b", "->", "::", "\\bimport\\b",
        "\\bpackage\\b", "\\bprotected\\b", "\\brecord\\b", "@", "Exact\\(", "\\bdouble\\b", "\\bfloat\\b"};

    private RulesTest() {
    }

    public static void main(String[] args) throws IOException {
        Due.due("final and public", ParishUnion.class.getModifiers(), Modifier.PUBLIC | Modifier.FINAL);
        constants();
        face();
        nested();
        source();
        Due.end();
    }

    private static void constants() {
        Due.due("NONE", ParishUnion.NONE, -1);
        Due.due("BAD", ParishUnion.BAD, -2);
        Due.due("STATE", ParishUnion.STATE, -3);
        Due.due("FULL", ParishUnion.FULL, -4);
        for (Field f : ParishUnion.class.getDeclaredFields()) {
            boolean told = List.of("NONE", "BAD", "STATE", "FULL").contains(f.getName());
            Due.due(f + " is public", Modifier.isPublic(f.getModifiers()) ? 1 : 0, told ? 1 : 0);
            Due.due(f + " is private", Modifier.isPrivate(f.getModifiers()) ? 1 : 0, told ? 0 : 1);
        }
    }

    private static String nameOf(Method m) {
        StringBuilder s = new StringBuilder(m.getName()).append('(');
        for (Class<?> c : m.getParameterTypes()) {
            s.append(s.charAt(s.length() - 1) == '(' ? "" : ",").append(c.getName());
        }
        return s.append(')').toString();
    }

    private static void face() {
        Set<String> face = new TreeSet<>(Arrays.asList(FACE));
        Set<String> found = new TreeSet<>();
        for (Method m : ParishUnion.class.getDeclaredMethods()) {
            if (Modifier.isPublic(m.getModifiers())) {
                found.add(nameOf(m));
                Due.due(m + " answers an int", m.getReturnType() == int.class ? 1 : 0, 1);
            } else {
                Due.due(m + " is private", Modifier.isPrivate(m.getModifiers()) ? 1 : 0, 1);
            }
        }
        Due.due("the face " + found, found.equals(face) ? 1 : 0, 1);
        Constructor<?>[] all = ParishUnion.class.getDeclaredConstructors();
        Due.due("one constructor", all.length, 1);
        Due.due("it is public", all[0].getModifiers(), Modifier.PUBLIC);
        Due.due("it takes nothing", all[0].getParameterCount(), 0);
    }

    private static void nested() {
        List<Class<?>> all = new ArrayList<>(Arrays.asList(ParishUnion.class.getDeclaredClasses()));
        Set<String> names = new TreeSet<>();
        for (String f : FACE) {
            names.add(f.substring(0, f.indexOf('(')));
        }
        Due.due("twelve classes at most", all.size() <= 11 ? 1 : 0, 1);
        for (Class<?> c : all) {
            Due.due(c + " is static", Modifier.isStatic(c.getModifiers()) ? 1 : 0, 1);
            for (Method m : c.getDeclaredMethods()) {
                Due.due(m + " bears no public name", names.contains(m.getName()) ? 1 : 0, 0);
                Due.due(m + " takes seven at most", m.getParameterCount() <= 7 ? 1 : 0, 1);
            }
            int own = 0;
            for (Field f : c.getDeclaredFields()) {
                own += Modifier.isStatic(f.getModifiers()) ? 0 : 1;
            }
            Due.due(c + " has twenty fields at most", own <= 20 ? 1 : 0, 1);
        }
    }

    private static void source() throws IOException {
        String text = Files.readString(Path.of(SOURCE));
        String code = text.replaceAll("(?s)/\\*.*?\\*/", "").replaceAll("//[^\n]*", "").replaceAll("\"[^\"\n]*\"", "\"\"");
        for (String b : BANNED) {
            Due.due(b + " is not used", Pattern.compile(b).matcher(code).find() ? 1 : 0, 0);
        }
        Matcher flags = Pattern.compile("boolean\\[\\] (\\w+)").matcher(code);
        while (flags.find()) {
            String copied = "arraycopy\\([^;]*\\b" + flags.group(1) + "\\b";
            Due.due(flags.group(1) + " are no numbers: not by arraycopy", Pattern.compile(copied).matcher(code).find() ? 1 : 0, 0);
        }
        int longest = 0;
        int begun = 0;
        String[] lines = text.split("\n");
        for (int i = 0; i < lines.length; i++) {
            if (lines[i].matches(" {4}(?: {4})?[a-z][^;=]*\\) \\{")) {
                begun = i;
            }
            if (lines[i].matches(" {4}(?: {4})?\\}")) {
                longest = Math.max(longest, begun == 0 ? 0 : i - begun + 1);
                begun = 0;
            }
        }
        Due.due("methods of sixty lines at most, " + longest, longest <= 60 ? 1 : 0, 1);
    }
}
