import java.io.IOException;
import java.lang.reflect.InvocationTargetException;
import java.lang.reflect.Method;
import java.lang.reflect.Modifier;
import java.net.URL;
import java.net.URLClassLoader;
import java.nio.file.Files;
import java.nio.file.Path;
import java.nio.file.attribute.PosixFilePermission;
import java.util.ArrayList;
import java.util.Arrays;
import java.util.Comparator;
import java.util.List;
import java.util.NoSuchElementException;
import java.util.Set;
import java.util.TreeSet;
import java.util.regex.Matcher;
import java.util.regex.Pattern;
import java.util.stream.Stream;
import javax.tools.ToolProvider;

/** README.md holds as it is written: its examples, its table of calls, its commands and its list of tests. */
public final class ReadmeTest {
    private static final Path README = Path.of("README.md");
    private static final Path TESTS = Path.of("src/test/java");
    private static final Path CLASS = Path.of("src/main/java/WaterCarts.java");
    private static final Path CI = Path.of(".ci/run");
    private static final Pattern BLOCK = Pattern.compile("(?ms)^```(\\w+)\n(.*?)^```$");
    private static final Pattern ANSWERED = Pattern.compile("(.+); +// (true|false|-?\\d+|throws \\w+)(: .*)?");
    private static final Pattern ROW = Pattern.compile("(?m)^\\| `(\\w+)\\((.*?)\\)` \\| (.*) \\| (.*) \\|$");
    private static final Pattern RANGE = Pattern.compile("(\\w+)(?: or (\\w+))? not (\\d+) to (\\w+)");
    private static final Pattern ONE_TOO_MANY = Pattern.compile("\\ban? (\\d+)(?:st|nd|rd|th)\\b");
    private static final Pattern WHAT = Pattern.compile("\\b(\\d): ");

    private final String readme;
    private final Path room;

    private ReadmeTest(String readme, Path room) {
        this.readme = readme;
        this.room = room;
    }

    public static void main(String[] args) throws Exception {
        Path room = Files.createTempDirectory("readme");
        try {
            ReadmeTest test = new ReadmeTest(Files.readString(README), room);
            test.examples();
            test.table();
            test.listOfTests();
            test.commands();
            test.ciFailsIfATestDoes();
        } finally {
            remove(room);
        }
        Check.end();
    }

    private List<String> blocks(String language) {
        List<String> found = new ArrayList<>();
        Matcher block = BLOCK.matcher(readme);
        while (block.find()) {
            if (block.group(1).equals(language)) found.add(block.group(2));
        }
        return found;
    }

    /** All Java of the page, as one class: each call's answer is told to Check beside the one written there. */
    private void examples() throws Exception {
        StringBuilder methods = new StringBuilder();
        StringBuilder calls = new StringBuilder();
        for (String block : blocks("java")) {
            if (block.startsWith("static ")) methods.append(block);
            else block.lines().forEach(line -> calls.append(asCheck(line)).append('\n'));
        }
        String source = "public class Page {\npublic static int seen;\npublic static String wrong = \"\";\n"
            + methods + "public static void run() {\n" + calls + "}\n"
            + "static void same(String call, String got, String due) {\n    seen++;\n"
            + "    if (!got.equals(due)) wrong += call + \" answered \" + got + \", not \" + due + \"; \";\n}\n}\n";
        Path file = room.resolve("Page.java");
        Files.writeString(file, source);
        int failed = ToolProvider.getSystemJavaCompiler().run(null, null, null,
            "-d", room.toString(), "-cp", System.getProperty("java.class.path"), file.toString());
        Check.due("the page's Java is compiled", failed, 0);
        if (failed == 0) runPage();
    }

    private static String asCheck(String line) {
        Matcher answered = ANSWERED.matcher(line);
        if (!answered.matches()) return line;
        String call = answered.group(1);
        String due = answered.group(2);
        String told = "\"" + call.replace("\"", "'") + "\"";
        if (!due.startsWith("throws ")) {
            return "same(" + told + ", String.valueOf(" + call + "), \"" + due + "\");";
        }
        return "try { " + call + "; same(" + told + ", \"nothing thrown\", \"" + due + "\"); }"
            + " catch (RuntimeException e) { same(" + told + ", \"throws \" + e.getClass().getSimpleName(), \"" + due
            + "\"); }";
    }

    private void runPage() throws Exception {
        URL[] where = {room.toUri().toURL()};
        try (URLClassLoader loader = new URLClassLoader(where, ReadmeTest.class.getClassLoader())) {
            Class<?> page = loader.loadClass("Page");
            page.getMethod("run").invoke(null);
            String wrong = (String) page.getField("wrong").get(null);
            Check.due("the page's answers: " + wrong, wrong.isEmpty(), true);
            long answered = blocks("java").stream().flatMap(String::lines).filter(l -> l.contains(" // ")).count();
            Check.due("calls with an answer behind them", page.getField("seen").getInt(null), answered);
        }
    }

    private void table() throws ReflectiveOperationException {
        Set<String> rows = new TreeSet<>();
        Matcher row = ROW.matcher(readme);
        while (row.find()) {
            String name = row.group(1);
            rows.add(name);
            List<String> parameters = row.group(2).isEmpty() ? List.of() : Arrays.asList(row.group(2).split(", "));
            Method method = methodOf(name);
            Check.due(name + ": parameters", parameters.size(), method.getParameterCount());
            ranges(method, parameters, row.group(4));
            oneTooMany(method, row.group(4));
            whats(method, parameters, row.group(3));
        }
        Set<String> face = new TreeSet<>();
        for (Method method : WaterCarts.class.getMethods()) {
            if (method.getDeclaringClass() == WaterCarts.class) face.add(method.getName());
        }
        Check.due("the table has the face: " + rows, rows.equals(face), true);
    }

    private static Method methodOf(String name) {
        for (Method method : WaterCarts.class.getDeclaredMethods()) {
            if (method.getName().equals(name) && Modifier.isPublic(method.getModifiers())) return method;
        }
        throw new IllegalStateException(name + " is not in the face");
    }

    /** Both ends of each range that a row tells are taken, and the numbers beyond them refused. */
    private static void ranges(Method method, List<String> parameters, String refused) throws ReflectiveOperationException {
        Matcher range = RANGE.matcher(refused);
        while (range.find()) {
            for (String parameter : new String[] {range.group(1), range.group(2)}) {
                if (parameter == null) continue;
                int place = parameters.indexOf(parameter);
                Check.due(method.getName() + " takes " + parameter, place >= 0, true);
                int most = parameters.indexOf(range.group(4));
                int high = most >= 0 ? usual(method)[most] : Integer.parseInt(range.group(4));
                int low = Integer.parseInt(range.group(3));
                for (int number : new int[] {low - 1, low, high, high + 1}) {
                    int[] arguments = usual(method);
                    arguments[place] = number;
                    Check.due(method.getName() + Arrays.toString(arguments) + " is refused",
                        refuses(method, world(), arguments), number < low || number > high);
                }
            }
        }
    }

    private static void oneTooMany(Method method, String refused) throws ReflectiveOperationException {
        Matcher many = ONE_TOO_MANY.matcher(refused);
        if (!many.find()) return;
        int most = Integer.parseInt(many.group(1));
        WaterCarts carts = world();
        int there = method.getName().equals("dip") ? 0 : 1;
        for (int i = there + 1; i <= most; i++) {
            Check.due(method.getName() + " refuses number " + i, refuses(method, carts, usual(method)), i == most);
        }
    }

    private static void whats(Method method, List<String> parameters, String answers) throws ReflectiveOperationException {
        int place = parameters.indexOf("what");
        if (place < 0) return;
        Set<Integer> told = new TreeSet<>();
        Matcher what = WHAT.matcher(answers);
        while (what.find()) told.add(Integer.parseInt(what.group(1)));
        for (int i = -1; i <= 12; i++) {
            int[] arguments = usual(method);
            arguments[place] = i;
            Check.due(method.getName() + " refuses what " + i, refuses(method, world(), arguments), !told.contains(i));
        }
    }

    /** One of each thing, numbered 0, and nothing dipped. */
    private static WaterCarts world() {
        WaterCarts carts = new WaterCarts();
        carts.village(10, 1, 1000, 500);
        carts.spring(100, 100, 1);
        carts.tanker(0, 100, 100);
        carts.bore(0, 500, 500);
        return carts;
    }

    private static int[] usual(Method method) {
        switch (method.getName()) {
            case "village": return new int[] {10, 1, 1000, 0};
            case "spring": return new int[] {100, 100, 1};
            case "tanker": return new int[] {0, 100, 100};
            case "way": return new int[] {0, 0, 20};
            case "bore": return new int[] {0, 500, 500};
            case "drill": return new int[] {0, 100};
            case "dip": return new int[] {0, 100, 100, 10};
            default: return new int[method.getParameterCount()];
        }
    }

    private static boolean refuses(Method method, WaterCarts carts, int[] numbers) throws ReflectiveOperationException {
        Object[] arguments = Arrays.stream(numbers).boxed().toArray();
        try {
            Object answer = method.invoke(carts, arguments);
            return answer.equals(WaterCarts.NONE) || answer.equals(false);
        } catch (InvocationTargetException e) {
            return e.getCause() instanceof NoSuchElementException;
        }
    }

    private void listOfTests() throws IOException {
        Set<String> named = new TreeSet<>();
        Matcher name = Pattern.compile("(?:^- |, |  )`(\\w+Test)`(?=[,:])", Pattern.MULTILINE).matcher(readme);
        while (name.find()) named.add(name.group(1) + ".java");
        Set<String> there = new TreeSet<>();
        try (Stream<Path> files = Files.list(TESTS)) {
            files.map(file -> file.getFileName().toString()).filter(file -> file.endsWith("Test.java")).forEach(there::add);
        }
        Check.due("the tests named " + named + " are those there " + there, named.equals(there), true);
    }

    /** .ci/run itself is what runs this test; the other commands are run in a copy, as they are written. */
    private void commands() throws Exception {
        List<String> commands = new ArrayList<>(blocks("sh"));
        Check.due(".ci/run is the first command", commands.remove(0).equals(".ci/run\n"), true);
        boolean executable = Files.getPosixFilePermissions(CI).contains(PosixFilePermission.OWNER_EXECUTE);
        Check.due("it can be run", executable, true);
        Path copy = room.resolve("copy");
        Files.createDirectories(copy.resolve(TESTS));
        put(CLASS, copy.resolve(CLASS));
        try (Stream<Path> files = Files.list(TESTS)) {
            for (Path file : files.toList()) put(file, copy.resolve(file));
        }
        for (String block : commands) {
            Check.due("the command " + block, exitCode(copy, "sh", "-e", "-c", block), 0);
        }
        Check.due("commands beside .ci/run", commands.size(), 1);
    }

    private void ciFailsIfATestDoes() throws Exception {
        Path project = room.resolve("main");
        Path ours = project.resolve(TESTS).resolve("OneTest.java");
        Path shared = room.resolve("shared/tests/Two.java");
        put(CLASS, project.resolve(CLASS));
        put(CI, project.resolve(CI));
        Files.createDirectories(ours.getParent());
        Files.createDirectories(shared.getParent());
        for (int failing = 0; failing < 3; failing++) {
            Files.writeString(ours, ending("OneTest", failing == 1 ? 1 : 0));
            Files.writeString(shared, ending("Two", failing == 2 ? 1 : 0));
            int code = exitCode(project, "bash", CI.toString());
            Check.due(".ci/run with test " + failing + " failing (0: none)", code, failing == 0 ? 0 : 1);
        }
    }

    private static String ending(String name, int code) {
        return "public final class " + name + " { public static void main(String[] args) { System.exit(" + code + "); } }";
    }

    private static int exitCode(Path where, String... command) throws Exception {
        return new ProcessBuilder(command).directory(where.toFile()).redirectErrorStream(true)
            .redirectOutput(ProcessBuilder.Redirect.DISCARD).start().waitFor();
    }

    private static void put(Path from, Path to) throws IOException {
        Files.createDirectories(to.getParent());
        Files.copy(from, to);
    }

    private static void remove(Path room) throws IOException {
        try (Stream<Path> all = Files.walk(room)) {
            for (Path path : all.sorted(Comparator.reverseOrder()).toList()) Files.delete(path);
        }
    }
}
