import java.io.ByteArrayOutputStream;
import java.io.PrintStream;
import java.lang.reflect.Method;
import java.lang.reflect.Modifier;
import java.net.URL;
import java.net.URLClassLoader;
import java.nio.charset.StandardCharsets;
import java.nio.file.Files;
import java.nio.file.Path;
import java.util.ArrayList;
import java.util.List;
import java.util.Set;
import java.util.TreeSet;
import java.util.stream.Collectors;
import java.util.stream.Stream;
import javax.tools.ToolProvider;

/** README.md says how the class is used: what it says must be so, and none of the calls may be left out. */
public final class ReadmeTest {
    private static final Path README = Path.of("README.md");
    private static final Path TESTS = Path.of("src/test/java");
    private static final String[] ABILITIES = {"line number", "check", "mark", "back", "left"};

    public static void main(String[] args) {
        Due.runAll(ReadmeTest.class);
    }

    /** The program of the page prints the numbers that stand behind its calls. */
    private static void theProgramPrintsWhatItSays() throws Exception {
        String program = between(text(), "```java\n", "```");
        List<String> want = new ArrayList<>();
        for (String line : program.split("\n")) {
            if (line.contains("println")) {
                want.add(line.substring(line.indexOf("// ") + 3).trim());
            }
        }
        Due.is("it prints something", want.isEmpty(), false);
        Due.is("the program", printedBy(program), String.join("\n", want));
    }

    /** Each call of the face has a line of its own, with as many arguments as it takes, and there is no other. */
    private static void eachCallHasALine() throws Exception {
        Set<String> want = new TreeSet<>();
        for (Method method : Layerwell.class.getDeclaredMethods()) {
            if (Modifier.isPublic(method.getModifiers())) {
                want.add(method.getName() + " " + method.getParameterCount());
            }
        }
        Set<String> got = new TreeSet<>();
        for (String[] cells : table("call")) {
            String call = cells[0].replace("`", "");
            String inside = between(call, "(", ")");
            got.add(call.substring(0, call.indexOf('(')) + " " + (inside.isEmpty() ? 0 : inside.split(",").length));
        }
        Due.is("the calls", got.toString(), want.toString());
    }

    /** What the page says of each kind is what the class does. */
    private static void eachKindHasALine() throws Exception {
        List<String[]> rows = table("kind");
        Due.is("kinds", rows.size(), 8);
        for (int kind = 0; kind < rows.size(); kind++) {
            String[] cells = rows.get(kind);
            Due.is("the number of " + cells[0], Integer.parseInt(cells[0].split(" ")[0]), kind);
            for (int i = 0; i < ABILITIES.length; i++) {
                Due.is(ABILITIES[i] + " of " + cells[0], cells[2 + i], ability(ABILITIES[i], kind));
            }
        }
    }

    /** Each exception of the face has a line of its own. */
    private static void eachExceptionHasALine() throws Exception {
        Set<String> want = new TreeSet<>();
        for (Method method : Layerwell.class.getDeclaredMethods()) {
            for (Class<?> thrown : method.getExceptionTypes()) {
                want.add(thrown.getSimpleName());
            }
        }
        Set<String> got = new TreeSet<>();
        for (String line : text().split("\n")) {
            if (line.startsWith("- `")) {
                got.add(between(line, "`", "`"));
            }
        }
        Due.is("the exceptions", got.toString(), want.toString());
    }

    /** Each test of the project has a line of its own. */
    private static void eachTestHasALine() throws Exception {
        Set<String> want;
        try (Stream<Path> files = Files.list(TESTS)) {
            want = files.map(file -> file.getFileName().toString().replace(".java", ""))
                    .collect(Collectors.toCollection(TreeSet::new));
        }
        Set<String> got = new TreeSet<>();
        for (String[] cells : table("test")) {
            got.add(cells[0].replace("`", ""));
        }
        Due.is("the tests", got.toString(), want.toString());
    }

    private static String ability(String name, int kind) {
        Layerwell x = Due.opened(kind, 1);
        switch (name) {
            case "line number": return yesIf(isAnswered(x, y -> y.line(0)));
            case "check": return yesIf(isAnswered(x, y -> y.check(0)));
            case "mark": return yesIf(isAnswered(x, y -> y.mark(0)));
            case "left": return yesIf(isAnswered(x, y -> y.left(0)));
            default: break;
        }
        if (isAnswered(x, y -> y.back(0))) {
            return "yes";
        }
        return isAnswered(x, y -> y.mark(0)) && isAnswered(x, y -> y.back(0)) ? "if marked" : "";
    }

    private static String yesIf(boolean can) {
        return can ? "yes" : "";
    }

    private static boolean isAnswered(Layerwell x, java.util.function.Function<Layerwell, Object> made) {
        return Due.thrownBy(x, made).startsWith("the answer ");
    }

    private static String text() throws Exception {
        return Files.readString(README, StandardCharsets.UTF_8);
    }

    /** The rows of the table whose first column has this name, by their cells. */
    private static List<String[]> table(String name) throws Exception {
        List<String[]> rows = new ArrayList<>();
        boolean inside = false;
        for (String line : text().split("\n")) {
            if (line.startsWith("| " + name + " |")) {
                inside = true;
            } else if (!line.startsWith("|")) {
                inside = false;
            } else if (inside && !line.startsWith("| ---")) {
                rows.add(cellsOf(line));
            }
        }
        return rows;
    }

    private static String[] cellsOf(String line) {
        String[] cells = line.substring(1, line.lastIndexOf('|')).split("\\|", -1);
        for (int i = 0; i < cells.length; i++) {
            cells[i] = cells[i].trim();
        }
        return cells;
    }

    private static String between(String text, String begin, String end) {
        int from = text.indexOf(begin);
        int to = from < 0 ? -1 : text.indexOf(end, from + begin.length());
        if (to < 0) {
            Due.say("there is nothing between " + begin + " and " + end);
            return "";
        }
        return text.substring(from + begin.length(), to);
    }

    private static String printedBy(String program) throws Exception {
        Path folder = Files.createTempDirectory("readme");
        try {
            Path file = Files.writeString(folder.resolve("Example.java"), program, StandardCharsets.UTF_8);
            String path = System.getProperty("java.class.path");
            int code = ToolProvider.getSystemJavaCompiler().run(null, null, null, "-cp", path, file.toString());
            Due.is("compiling the program", code, 0);
            return code == 0 ? printedByClassIn(folder) : "";
        } finally {
            Folder.remove(folder);
        }
    }

    private static String printedByClassIn(Path folder) throws Exception {
        ByteArrayOutputStream printed = new ByteArrayOutputStream();
        PrintStream before = System.out;
        URL[] places = {folder.toUri().toURL()};
        try (URLClassLoader loader = new URLClassLoader(places, ReadmeTest.class.getClassLoader())) {
            System.setOut(new PrintStream(printed, true, StandardCharsets.UTF_8));
            loader.loadClass("Example").getMethod("main", String[].class).invoke(null, (Object) new String[0]);
        } finally {
            System.setOut(before);
        }
        return printed.toString(StandardCharsets.UTF_8).trim().replace(System.lineSeparator(), "\n");
    }
}
