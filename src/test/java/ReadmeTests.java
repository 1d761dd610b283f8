import java.io.File;
import java.io.IOException;
import java.lang.reflect.Method;
import java.nio.charset.StandardCharsets;
import java.nio.file.Files;
import java.nio.file.Path;
import java.util.ArrayList;
import java.util.Arrays;
import java.util.Comparator;
import java.util.List;
import java.util.Set;
import java.util.TreeSet;
import java.util.concurrent.TimeUnit;
import java.util.regex.Matcher;
import java.util.regex.Pattern;
import java.util.stream.Stream;

/** What README.md tells holds when it is done as written. */
public final class ReadmeTests extends Checks {
    private static final String TESTS = "src/test/java";
    private static final List<String> README = lines(Path.of("README.md"));

    private static List<String> lines(Path path) {
        try {
            return Files.readAllLines(path, StandardCharsets.UTF_8);
        } catch (IOException e) {
            throw new IllegalStateException("there is no " + path, e);
        }
    }

    /** The lines of each block that is marked so. */
    private static List<List<String>> blocks(String mark) {
        List<List<String>> all = new ArrayList<>();
        List<String> block = null;
        for (String line : README) {
            if (block != null && line.equals("```")) block = null;
            else if (block != null) block.add(line);
            else if (line.startsWith("```")) {
                block = new ArrayList<>();
                if (line.equals("```" + mark)) all.add(block);
            }
        }
        return all;
    }

    /** All that stands between single backticks, outside the blocks. */
    private static List<String> quoted() {
        List<String> all = new ArrayList<>();
        boolean inBlock = false;
        for (String line : README) {
            if (line.startsWith("```")) inBlock = !inBlock;
            else if (!inBlock) all.addAll(quoted(line));
        }
        return all;
    }

    private static List<String> quoted(String line) {
        List<String> all = new ArrayList<>();
        Matcher m = Pattern.compile("`([^`]+)`").matcher(line);
        while (m.find()) all.add(m.group(1));
        return all;
    }

    private static void holds(String what, boolean itDoes) {
        due(what, itDoes ? 1 : 0, 1);
    }

    private static void copyTree(Path from, Path to) throws IOException {
        try (Stream<Path> all = Files.walk(from)) {
            for (Path p : (Iterable<Path>) all::iterator) {
                Path copy = to.resolve(from.relativize(p).toString());
                if (Files.isDirectory(p)) Files.createDirectories(copy);
                else Files.copy(p, copy);
            }
        }
    }

    private static void deleteTree(Path top) throws IOException {
        try (Stream<Path> all = Files.walk(top)) {
            for (Path p : (Iterable<Path>) all.sorted(Comparator.reverseOrder())::iterator) Files.delete(p);
        }
    }

    /** What the commands print, in a copy of this project that is as a clean checkout; null if one fails. */
    private static String done(List<String> commands) throws IOException, InterruptedException {
        Path top = Files.createTempDirectory("readme");
        try {
            copyTree(Path.of("src"), top.resolve("src"));
            File printed = top.resolve("printed").toFile();
            Process p = new ProcessBuilder("sh", "-e", "-c", String.join("\n", commands)).directory(top.toFile())
                .redirectErrorStream(true).redirectOutput(printed).start();
            if (!p.waitFor(5, TimeUnit.MINUTES)) p.destroyForcibly().waitFor();
            String text = Files.readString(printed.toPath(), StandardCharsets.UTF_8);
            return p.exitValue() == 0 ? text : null;
        } finally {
            deleteTree(top);
        }
    }

    private static void commands() {
        List<List<String>> all = blocks("sh");
        due("blocks of commands", all.size(), 3);
        try {
            String want = String.join("\n", blocks("text").get(0)) + "\n";
            String printed = done(all.get(0));
            holds("the example prints what is told, not " + printed, want.equals(printed));
            holds("all tests are run by a script that can be run", all.get(1).equals(List.of(".ci/run")));
            holds("one test alone runs", done(all.get(2)) != null);
        } catch (IOException | InterruptedException e) {
            holds("the commands can be run: " + e, false);
        }
        holds(".ci/run can be run", Files.isExecutable(Path.of(".ci/run")));
    }

    private static void excerpt() {
        List<String> example = lines(Path.of("src/example/java/Eleven.java"));
        int line = 0;
        for (String told : blocks("java").get(0)) {
            while (line < example.size() && !example.get(line).trim().equals(told)) line++;
            holds("the example has " + told, line < example.size());
        }
    }

    private static void paths() {
        for (String told : quoted()) {
            if (told.matches("[\\w./]*/[\\w./]+")) holds("there is " + told, Files.exists(Path.of(told)));
        }
    }

    /** Each statement told comes, one behind the other, and each of the seven is told. */
    private static void statements() {
        TrolleyAtEleven x = new TrolleyAtEleven();
        Set<Character> heads = new TreeSet<>();
        for (String line : README) {
            List<String> told = line.startsWith("| `") ? quoted(line) : new ArrayList<>();
            if (told.isEmpty() || !told.get(0).endsWith(";")) continue;
            for (String statement : told.get(0).split(";")) heads.add(statement.charAt(0));
            holds("house() of " + told.get(0), told(x, told.get(0)) > 0);
        }
        due("heads of statements", heads.size(), 7);
        settings(x, 30, 85, 12, 10, 8, 0, 0, 5, 2, 5);
        settings(new TrolleyAtEleven(), 40, 90, 10, 10, 10, 4, 0, 1, 1, 0);
        for (String told : quoted()) {
            if (told.matches("[a-z]")) holds("a floor of kind " + told, told(new TrolleyAtEleven(), "f" + told + "4010;") == 1);
        }
    }

    /** Each method of the class is in the table of calls, and nothing else. */
    private static void calls() {
        Set<String> face = new TreeSet<>();
        for (Method m : TrolleyAtEleven.class.getMethods()) {
            if (m.getDeclaringClass() == TrolleyAtEleven.class) face.add(m.getName());
        }
        Set<String> told = new TreeSet<>();
        int times = 0;
        for (String line : README) {
            if (!line.matches("\\| [a-z][^`]*\\| `.*")) continue;
            told.addAll(quoted(line));
            times += quoted(line).size();
        }
        holds("the calls told " + told + " are those of the class " + face, told.equals(face));
        due("calls told", times, face.size());
    }

    private static void testsTold() {
        Set<String> there = new TreeSet<>();
        String[] files = new File(TESTS).list();
        for (String file : files == null ? new String[0] : files) there.add(file.replace(".java", ""));
        Set<String> told = new TreeSet<>();
        for (String line : README) {
            if (line.startsWith("- `")) told.add(quoted(line).get(0));
        }
        holds("the tests told " + told + " are those there " + there, told.equals(there));
    }

    /** What is told of refusals: the numbers, and which answers below 0 are none. */
    private static void refusals() {
        TrolleyAtEleven x = housed("fo0200;fo9200;");
        long[] answers = {x.when(2), x.total(8), x.on(), x.letter(-1), x.row(100), x.late(11, 0)};
        long[] want = {-1, -2, -3, -4, -6, FAR + 6};
        holds("refusals " + Arrays.toString(answers), Arrays.equals(answers, want));
        int[] refused = {1, 1, 1, 1, 0, 2};
        for (int r = 0; r < 6; r++) due("count(" + (11 + r) + ")", x.count(11 + r), refused[r]);
        due("saves()", x.saves(), 400 - 20 * 5 - 20 * (5 + 10 + 10));
        due("judge()", x.judge(), -9);
        due("house()", x.house(), -1000);
        for (int r = 0; r < 6; r++) due("count(" + (11 + r) + ") as before", x.count(11 + r), refused[r]);
    }

    public static void main(String[] args) {
        run("README.md, commands", ReadmeTests::commands);
        run("README.md, the example", ReadmeTests::excerpt);
        run("README.md, paths", ReadmeTests::paths);
        run("README.md, statements", ReadmeTests::statements);
        run("README.md, calls", ReadmeTests::calls);
        run("README.md, tests", ReadmeTests::testsTold);
        run("README.md, refusals", ReadmeTests::refusals);
        end();
    }
}
