import java.lang.reflect.Method;
import java.net.URL;
import java.net.URLClassLoader;
import java.nio.charset.StandardCharsets;
import java.nio.file.Files;
import java.nio.file.Path;
import java.util.Arrays;
import javax.tools.ToolProvider;

/**
 * Promise 31, the other way round: the theorem holds of every right Layerwell, so only one with a fault shows
 * whether isTrue() looks at what it promises. Each fault is put in the text of the class, which is compiled aside.
 */
public final class TheoremTest {
    private static final Path SOURCE = Path.of("src/main/java/Layerwell.java");
    // A byte that only the fault of the choice knows.
    private static final int ODD_BYTE = 77;

    // A reading byte by byte that differs from the one that parts and skips go by; what it answers follows.
    private static final String NEXT = "int next() {";
    private static final String OWN_NEXT = "int next() { int got = step(); return %s; }  int step() {";
    private static final String PUT_NEXT = "into.put(next());";
    private static final String PUT_STEP = "into.put(step());";
    private static final String SKIP_NEXT = "next();\n            }\n            return passed;";
    private static final String SKIP_STEP = "step();\n            }\n            return passed;";

    // What a fault is, and then by twos the text that is right and the one that takes its place.
    private static final String[][] FAULTS = {
        {"a byte that is read wrong", "return number;\n        }\n\n        int pass",
            "return number ^ 1;\n        }\n\n        int pass"},
        {"an OUT without its last byte", "if (number == NONE) {", "if (number == NONE || place == out.size() - 1) {"},
        {"a line number that stays", "lineNumber++;", ""},
        {"a check that stays", "register = withByte(register, number);", ""},
        {"a second source that is left out", "out.putAll(b);", ""},
        {"a seam that ends a line twice", "out.putLined(b, a.at(a.size() - 1));", "out.putLined(b, NONE);"},
        {"rows LINED as if they were joined", "out.putLined(b, NONE);", "out.putLined(b, CARRIAGE_RETURN);"},
        {"parts with wrong bytes", "move(taken, into);\n", "move(taken, into); into.takeLast(); into.put(1);\n"},
        {"parts that lose a byte", "move(taken, into);\n", "move(taken, into); if (many == 3) { next(); }\n"},
        {"parts that end too soon", "if (taken == 0) {", "if (taken < 3) {"},
        {"a skip that passes too few", "Math.min(many, rest());\n            for",
            "Math.min(many, 1);\n            for"},
        {"a skip of a third of BYTES that passes too few", "Math.min(many, rest());\n            for",
            "Math.min(many, rest()) - (kind == BYTES && many == 3 ? 1 : 0);\n            for"},
        {"a skip that says too few", "return passed;", "return 0;"},
        {"a skip that counts no lines", "next();\n            }\n            return passed;",
            "place++;\n            }\n            return passed;"},
        {"a mark elsewhere", "markPlace = place;", "markPlace = 0;"},
        {"a mark without its line number", "markLine = lineNumber;", ""},
        {"a way back that leads nowhere", "place = markPlace;", ""},
        {"a way back without the line number", "lineNumber = markLine;", ""},
        byByteAlone("a first byte one more", "got == 98 && place == 1 ? 99 : got"),
        byByteAlone("a first byte one less", "got == 98 && place == 1 ? 97 : got"),
        byByteAlone("a byte behind the end", "got == NONE ? 0 : got"),
        byByteAlone("another number at the end", "got == NONE ? -2 : got"),
        {"an end that counts as a line", "if (number == NONE) {", "if (number == NONE) { lineNumber++;"},
        {"an end that counts in the check", "if (number == NONE) {", "if (number == NONE) { register = 0;"},
        {"parts with larger bytes", "move(taken, into);\n", "move(taken, into); into.takeLast(); into.put(255);\n"},
        {"parts that never end", "return NONE;\n            }\n            move",
            "into.makeEmpty(); return 0;\n            }\n            move"},
        {"parts that count lines too soon", "move(taken, into);\n",
            "move(taken, into); if (kind == LINES) { lineNumber += place < out.size() ? 7 : -14; }\n"},
        {"a skip of JOINED that says what it has not passed", "int i = 0; i < passed;",
            "int i = kind == JOINED ? 1 : 0; i < passed;"},
        {"a skip that says too many", "return passed;", "return passed + 1;"},
        {"a mark that passes a byte", "markPlace = place;", "markPlace = place; place++;"},
        {"a check one more", "return ALL_BITS - register;", "return ALL_BITS - register + 1;"},
        {"a check one less", "return ALL_BITS - register;", "return ALL_BITS - register - 1;"},
        {"a line number one more", "lineNumber = 0;", "lineNumber = 1;"},
        {"a line number one less", "lineNumber = 0;", "lineNumber = -1;"},
    };

    private static String[] byByteAlone(String name, String answer) {
        return new String[] {name + ", byte by byte alone", NEXT, String.format(OWN_NEXT, answer),
            PUT_NEXT, PUT_STEP, SKIP_NEXT, SKIP_STEP};
    }

    public static void main(String[] args) throws Exception {
        Path folder = Files.createTempDirectory("theorem");
        try {
            faults(folder);
        } finally {
            Folder.remove(folder);
        }
        Due.end();
    }

    private static void faults(Path folder) throws Exception {
        int[][] sources = {{98, 13, 10, 10, 97, 13, 10, 98, 10, 99, 13}, {10, 97, 13}, {}, {}};
        String text = Files.readString(SOURCE, StandardCharsets.UTF_8);
        Due.is("isTrue without a fault", isTrue(compiled(folder, "right", text), sources), true);
        for (int i = 0; i < FAULTS.length; i++) {
            String wrong = text;
            for (int at = 1; at < FAULTS[i].length; at += 2) {
                wrong = withFault(wrong, FAULTS[i][at], FAULTS[i][at + 1]);
            }
            Due.is("isTrue with " + FAULTS[i][0], isTrue(compiled(folder, "fault" + i, wrong), sources), false);
        }
        for (int kind = 0; kind < 8; kind++) {
            String wrong = withFault(text, "place++;", "place++; if (kind == " + kind + ") { return 0; }");
            Class<?> layerwell = compiled(folder, "kind" + kind, wrong);
            Due.is("isTrue with a fault of kind " + kind, isTrue(layerwell, sources), false);
        }
        String choosy = withFault(text, "place++;", "place++; if (number == " + ODD_BYTE + ") { return 0; }");
        chosenSources(compiled(folder, "choosy", choosy));
    }

    /** The fault must show in the source with the most bytes and in the next one, and in these alone. */
    private static void chosenSources(Class<?> layerwell) throws Exception {
        int[][] lengths = {{5, 5, 5, 5}, {1, 5, 5, 2}, {5, 1, 6, 6}, {1, 2, 3, 4}, {5, 5, 6, 4}};
        int[] firsts = {0, 1, 2, 3, 2};
        for (int i = 0; i < lengths.length; i++) {
            for (int odd = 0; odd < 4; odd++) {
                boolean isChosen = odd == firsts[i] || odd == (firsts[i] + 1) % 4;
                boolean answer = isTrue(layerwell, filled(lengths[i], odd));
                Due.is("isTrue, lengths " + i + ", the fault in source " + odd, answer, !isChosen);
            }
        }
    }

    private static String withFault(String text, String right, String wrong) {
        int from = text.indexOf("private static final class Stream");
        int at = text.indexOf(right, from);
        if (from < 0 || at < 0) {
            Due.say("the class has no such text for a fault any more: " + right);
            return text;
        }
        return text.substring(0, at) + wrong + text.substring(at + right.length());
    }

    private static int[][] filled(int[] lengths, int odd) {
        int[][] sources = new int[4][];
        for (int i = 0; i < 4; i++) {
            sources[i] = new int[lengths[i]];
            Arrays.fill(sources[i], i == odd ? ODD_BYTE : 1);
        }
        return sources;
    }

    private static Class<?> compiled(Path folder, String name, String text) throws Exception {
        Path place = Files.createDirectory(folder.resolve(name));
        Path file = Files.writeString(place.resolve("Layerwell.java"), text, StandardCharsets.UTF_8);
        int code = ToolProvider.getSystemJavaCompiler().run(null, null, null, file.toString());
        Due.is("compiling " + name, code, 0);
        URL[] places = {place.toUri().toURL()};
        return new URLClassLoader(places, ClassLoader.getPlatformClassLoader()).loadClass("Layerwell");
    }

    private static boolean isTrue(Class<?> layerwell, int[][] sources) throws Exception {
        Object x = layerwell.getConstructor().newInstance();
        Method type = layerwell.getMethod("type", int.class, int.class);
        for (int source = 0; source < 4; source++) {
            for (int number : sources[source]) {
                type.invoke(x, source, number);
            }
        }
        return (boolean) layerwell.getMethod("isTrue").invoke(x);
    }
}
