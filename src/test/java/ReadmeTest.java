import java.io.ByteArrayOutputStream;
import java.io.File;
import java.io.PrintStream;
import java.lang.reflect.Method;
import java.lang.reflect.Modifier;
import java.net.URL;
import java.net.URLClassLoader;
import java.nio.charset.StandardCharsets;
import java.nio.file.Files;
import java.nio.file.Path;
import java.util.ArrayList;
import java.util.List;
import java.util.regex.Matcher;
import java.util.regex.Pattern;
import javax.tools.JavaCompiler;
import javax.tools.ToolProvider;

/** The examples of README.md compile, show every call, and answer as it says. */
public final class ReadmeTest {
    private static final Pattern BLOCK = Pattern.compile("(?ms)^```(\\w+)\n(.*?)^```$");
    private static final Pattern PROGRAM = Pattern.compile("^public final class (\\w+) ");
    private static final Pattern CALL = Pattern.compile("(?:int (\\w+) = )?(crates\\.(\\w+)\\([^;]*\\)); *// (-?\\d+|[A-Z]+)(?:: .*)?");
    private static final String MAKING = "CrateHelpers crates = new CrateHelpers();";
    private static final Check CHECK = new Check("ReadmeTest");

    private static int programs = 0;

    public static void main(String[] args) throws Exception {
        Matcher blocks = BLOCK.matcher(Files.readString(Path.of("README.md")));
        StringBuilder callByCall = new StringBuilder();
        String program = null;
        while (blocks.find()) {
            String text = blocks.group(2);
            if (blocks.group(1).equals("text")) {
                CHECK.holds("what is printed stands behind a program", program != null);
                prints(program, text);
                program = null;
            } else if (PROGRAM.matcher(text).find()) {
                program = text;
            } else {
                callByCall.append(text);
            }
        }
        CHECK.holds("each program says what it prints", program == null);
        CHECK.holds("there is a program", programs > 0);
        answers(callByCall.toString().split("\n"));
        namesEachTest();
        CHECK.end();
    }

    private static void namesEachTest() throws Exception {
        String readme = Files.readString(Path.of("README.md"));
        CHECK.holds("README.md says how the tests are run", readme.contains(".ci/run"));
        for (File file : new File("src/test/java").listFiles()) {
            String name = file.getName().replace(".java", "");
            CHECK.holds("README.md names " + name, !name.endsWith("Test") || readme.contains("`" + name + "`"));
        }
    }

    private static void prints(String program, String want) throws Exception {
        Matcher name = PROGRAM.matcher(program);
        if (name.find()) {
            programs++;
            String got = printed(name.group(1), program);
            CHECK.holds(name.group(1) + " prints\n" + got + "and README.md says\n" + want, got.equals(want));
        }
    }

    /** Each line of the examples is a call with its answer: all are made as they stand, one behind the other. */
    private static void answers(String[] lines) throws Exception {
        StringBuilder plain = new StringBuilder();
        StringBuilder telling = new StringBuilder();
        List<String> shown = new ArrayList<>();
        List<String> calls = new ArrayList<>();
        List<Integer> want = new ArrayList<>();
        for (String line : lines) {
            plain.append(line).append('\n');
            Matcher call = CALL.matcher(line);
            if (!call.matches()) {
                CHECK.holds("a call with its answer: " + line, line.equals(MAKING));
                telling.append(line).append('\n');
                continue;
            }
            boolean isKept = call.group(1) != null;
            telling.append(isKept ? line + "\nSystem.out.println(" + call.group(1) + ");\n" : "System.out.println(" + call.group(2) + ");\n");
            calls.add(line);
            shown.add(call.group(3));
            want.add(number(call.group(4)));
        }
        CHECK.holds("the examples print nothing", printed("PlainExamples", inMain("PlainExamples", plain)).isEmpty());
        String[] got = printed("TellingExamples", inMain("TellingExamples", telling)).split("\n");
        CHECK.due("answers to the examples", got.length, calls.size());
        for (int i = 0; i < got.length && i < calls.size(); i++) {
            CHECK.due("README.md: " + calls.get(i), Integer.parseInt(got[i]), want.get(i));
        }
        showsEveryCall(shown);
    }

    private static void showsEveryCall(List<String> shown) {
        for (Method m : CrateHelpers.class.getDeclaredMethods()) {
            if (Modifier.isPublic(m.getModifiers())) {
                CHECK.holds("README.md shows " + m.getName(), shown.contains(m.getName()));
            }
        }
    }

    private static int number(String told) throws Exception {
        return Character.isLetter(told.charAt(0)) ? CrateHelpers.class.getField(told).getInt(null) : Integer.parseInt(told);
    }

    private static String inMain(String name, CharSequence lines) {
        return "public final class " + name + " {\npublic static void main(String[] args) {\n" + lines + "}\n}\n";
    }

    /** What a program prints; nothing if it does not compile. */
    private static String printed(String name, String program) throws Exception {
        File dir = Files.createTempDirectory("readme").toFile();
        File source = new File(dir, name + ".java");
        Files.writeString(source.toPath(), program);
        JavaCompiler javac = ToolProvider.getSystemJavaCompiler();
        String here = System.getProperty("java.class.path");
        int failed = javac == null ? 1 : javac.run(null, null, null, "-cp", here, "-d", dir.getPath(), source.getPath());
        CHECK.due(name + " compiles", failed, 0);
        String told = failed == 0 ? run(name, dir) : "";
        for (File file : dir.listFiles()) {
            file.delete();
        }
        dir.delete();
        return told;
    }

    private static String run(String name, File dir) throws Exception {
        PrintStream before = System.out;
        ByteArrayOutputStream bytes = new ByteArrayOutputStream();
        try (URLClassLoader loader = new URLClassLoader(new URL[] {dir.toURI().toURL()})) {
            System.setOut(new PrintStream(bytes, true, StandardCharsets.UTF_8));
            loader.loadClass(name).getMethod("main", String[].class).invoke(null, (Object) new String[0]);
        } finally {
            System.setOut(before);
        }
        return bytes.toString(StandardCharsets.UTF_8).replace(System.lineSeparator(), "\n");
    }
}
