import java.io.IOException;
import java.lang.reflect.Field;
import java.lang.reflect.Method;
import java.lang.reflect.Modifier;
import java.nio.charset.StandardCharsets;
import java.nio.file.Files;
import java.nio.file.Path;
import java.util.Arrays;
import java.util.Map;
import java.util.Set;
import java.util.TreeMap;
import java.util.TreeSet;
import java.util.regex.Matcher;
import java.util.regex.Pattern;

/** The face of the class, and those rules of LANGUAGE.md that can be seen from its text. */
public final class LanguageCheck {
    private static final String[] FACE = {
        "int letter(int)", "int house()", "int story(int,int)", "int place(int)", "int change(int,int)",
        "int people(int,int)", "int set(int,int)", "int come(int,int)", "int going(int,int)", "int total(int)",
        "int at(int,int)", "int when(int)", "int best(int)", "int bestAt(int,int)", "int turned(int)", "int most()",
        "int enough(int)", "int fill()", "int ramp()", "int keep(int)", "int oneEach()", "int machine()", "int saves()",
        "long late(int,int)", "int more(int)", "int squeak(int)", "int row(int)", "int fits(int)", "int judge()",
        "int lots(int,int)", "int image()", "int on()", "int count(int)"};
    private static final String[] BARRED = {"\\bthrows?\\b", "\\btry\\b", "\\bcatch\\b", "\\bfinally\\b",
        "\\bsynchronized\\b", "\\bassert\\b", "\\bimport\\b", "\\bpackage\\b", "->", "::", "\\bprotected\\b", "\\bvar\\b",
        "\\bObject\\b", "\\bThread\\b", "\\bSystem\\.(?!arraycopy\\b)", "\\bInteger\\.[A-Z]", "Exact\\b", "\\bstatic \\{",
        "\"", "\\bhashCode\\b", "\\btoString\\b", "\\bequals\\b", "\\bnull\\b", "\\b(float|double)\\b",
        "\\b(String|StringBuilder|Arrays|List|ArrayList|Iterator|Class|Runtime)\\b"};
    private static final int MOST_DEPTH = 8;
    private static int wrong = 0;

    private static void must(boolean holds, String what) {
        if (holds) return;
        wrong++;
        System.out.println("not so: " + what);
    }

    private static String told(Method m) {
        StringBuilder all = new StringBuilder(m.getReturnType().getName()).append(' ').append(m.getName()).append('(');
        for (Class<?> p : m.getParameterTypes()) all.append(all.charAt(all.length() - 1) == '(' ? "" : ",").append(p.getName());
        return all.append(')').toString();
    }

    private static void face() {
        Class<?> c = TrolleyAtEleven.class;
        Set<String> seen = new TreeSet<>();
        Set<String> names = new TreeSet<>();
        for (Method m : c.getDeclaredMethods()) {
            if (Modifier.isPrivate(m.getModifiers())) continue;
            must(m.getModifiers() == Modifier.PUBLIC, told(m) + " is public and no more");
            seen.add(told(m));
            names.add(m.getName());
        }
        must(seen.equals(new TreeSet<>(Arrays.asList(FACE))), "the methods are those of the face: " + seen);
        for (Method m : c.getDeclaredMethods()) {
            must(!Modifier.isPrivate(m.getModifiers()) || !names.contains(m.getName()), "a private name of its own: " + told(m));
        }
        must(c.getModifiers() == (Modifier.PUBLIC | Modifier.FINAL), "the class is public and final");
        must(c.getConstructors().length == 1 && c.getDeclaredConstructors().length == 1, "one constructor");
        for (Field f : c.getDeclaredFields()) must(Modifier.isPrivate(f.getModifiers()), f.getName() + " is private");
    }

    private static void sizes() {
        Class<?>[] inside = TrolleyAtEleven.class.getDeclaredClasses();
        must(inside.length < 12, "at most some twelve classes");
        fields(TrolleyAtEleven.class);
        for (Class<?> c : inside) {
            fields(c);
            must(Modifier.isStatic(c.getModifiers()), c.getName() + " is static");
            for (Method m : c.getDeclaredMethods()) must(m.getParameterCount() <= 7, told(m) + " takes at most seven");
        }
    }

    private static void fields(Class<?> c) {
        int own = 0;
        for (Field f : c.getDeclaredFields()) {
            if (!Modifier.isStatic(f.getModifiers())) own++;
            else must(Modifier.isFinal(f.getModifiers()), f.getName() + " is final");
        }
        must(own <= 20, c.getName() + " has at most twenty fields");
    }

    private static void text(String text) {
        for (int i = 0; i < text.length(); i++) must(text.charAt(i) < 128, "only signs below 128, at " + i);
        String code = withoutComments(text);
        for (String barred : BARRED) {
            Matcher m = Pattern.compile(barred).matcher(code);
            must(!m.find(), "nothing of " + barred);
        }
        int start = 0;
        String[] lines = code.split("\n");
        for (int i = 0; i < lines.length; i++) {
            if (lines[i].matches("( {4}| {8})[a-zA-Z].*\\) \\{")) start = i;
            if (lines[i].matches("( {4}| {8})\\}")) must(i - start < 60, "at most sixty lines, line " + i);
        }
    }

    private static String withoutComments(String text) {
        return text.replaceAll("(?s)/\\*.*?\\*/", "").replaceAll("//[^\n]*", "");
    }

    /** Each method's text; those of one name are taken as one. */
    private static Map<String, String> bodies(String code) {
        Map<String, String> all = new TreeMap<>();
        Matcher m = Pattern.compile("(?m)^ +(?:[a-z]+ )*[\\w\\[\\]]+ (\\w+)\\([^()]*\\) \\{$").matcher(code);
        while (m.find()) {
            int open = 1;
            int end = m.end();
            while (end < code.length() && open > 0) {
                char c = code.charAt(end++);
                open += c == '{' ? 1 : c == '}' ? -1 : 0;
            }
            all.merge(m.group(1), code.substring(m.end(), end), String::concat);
        }
        return all;
    }

    /** How many calls stand open at once from here on, those of the library too; too many if one calls itself. */
    private static int depth(String name, Map<String, String> bodies, int open) {
        if (open > MOST_DEPTH) return 1;
        int deepest = 0;
        Matcher m = Pattern.compile("(\\w+)\\(").matcher(bodies.getOrDefault(name, ""));
        while (m.find()) {
            boolean called = bodies.containsKey(m.group(1)) || m.start() > 0 && bodies.get(name).charAt(m.start() - 1) == '.';
            if (called) deepest = Math.max(deepest, depth(m.group(1), bodies, open + 1));
        }
        return 1 + deepest;
    }

    /** No recursion, calls at most eight deep, and objects made with the program's object alone. */
    private static void calls(String text) {
        String code = withoutComments(text);
        Map<String, String> bodies = bodies(code);
        for (String told : FACE) {
            String name = told.substring(told.indexOf(' ') + 1, told.indexOf('('));
            must(bodies.containsKey(name), name + " has a text");
            must(depth(name, bodies, 1) <= MOST_DEPTH, "at most eight deep: " + name);
        }
        for (Map.Entry<String, String> e : bodies.entrySet()) {
            must(!Pattern.compile("\\bnew\\b").matcher(e.getValue()).find(), "no call makes an object: " + e.getKey());
        }
    }

    public static void main(String[] args) throws IOException {
        String main = args.length > 0 ? args[0] : "src/main/java/TrolleyAtEleven.java";
        face();
        sizes();
        String text = new String(Files.readAllBytes(Path.of(main)), StandardCharsets.UTF_8);
        text(text);
        calls(text);
        System.out.println(wrong + " rules not kept");
        if (wrong != 0) System.exit(1);
    }
}
