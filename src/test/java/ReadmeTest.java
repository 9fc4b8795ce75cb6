import java.io.IOException;
import java.net.URL;
import java.net.URLClassLoader;
import java.nio.file.Files;
import java.nio.file.Path;
import java.util.ArrayList;
import java.util.List;
import java.util.Set;
import java.util.TreeSet;
import java.util.regex.Matcher;
import java.util.regex.Pattern;
import java.util.stream.Stream;
import javax.tools.ToolProvider;

/** What README.md says is so; .ci/run starts it at the project's root. */
public final class ReadmeTest {
    private static final Due DUE = new Due("ReadmeTest");

    /** A call, and behind it what it answers or throws, perhaps with words on it. */
    private static final Pattern SHOWN = Pattern.compile(
            "(int (?<name>\\w+) = )?(?<call>desk\\..*); +// (?<answer>throws \\w+|[-+.\\w]+)(:.*)?");

    public static void main(String[] args) throws IOException, ReflectiveOperationException {
        String readme = Files.readString(Path.of("README.md"));
        List<String> calls = linesOf("java", readme);
        shownCallsAnswerSo(calls);
        everyCallIsShown(calls, readme);
        DUE.same("the way to run the tests", linesOf("sh", readme).toString(), "[.ci/run]");
        DUE.isTrue(".ci/run can be run", Files.isExecutable(Path.of(".ci/run")));
        theWayToUseItWorks(readme);
        everyTestIsNamed(readme);
        DUE.end();
    }

    private static List<String> linesOf(String kind, String readme) {
        List<String> lines = new ArrayList<>();
        Matcher block = Pattern.compile("(?s)```" + kind + "\n(.*?)```").matcher(readme);
        while (block.find()) {
            lines.addAll(block.group(1).lines().toList());
        }
        return lines;
    }

    private static void shownCallsAnswerSo(List<String> calls) throws IOException, ReflectiveOperationException {
        DUE.same("the first line", calls.get(0), "EpochDesk desk = new EpochDesk();");
        List<Matcher> shown = new ArrayList<>();
        for (String line : calls.subList(1, calls.size())) {
            Matcher matcher = SHOWN.matcher(line);
            DUE.isTrue(line + " has its answer behind it", matcher.matches());
            shown.add(matcher);
        }
        List<String> answers = answersOf(programOf(calls.get(0), shown));
        DUE.same("answers", answers.size(), shown.size());
        for (int i = 0; i < answers.size(); i++) {
            DUE.same(shown.get(i).group("call"), answers.get(i), shown.get(i).group("answer"));
        }
    }

    /** In one method, since later blocks go on with the object and the numbers of the earlier ones. */
    private static String programOf(String first, List<Matcher> shown) {
        StringBuilder built = new StringBuilder();
        built.append("public final class ReadmeCalls { public static void call(java.util.List<String> answers) {\n");
        built.append(first).append('\n');
        for (Matcher line : shown) {
            String name = line.group("name");
            if (name != null) {
                built.append("int ").append(name).append(" = ").append(line.group("call")).append(";\n");
            }
            built.append("try { answers.add(String.valueOf(").append(name == null ? line.group("call") : name);
            built.append(")); } catch (RuntimeException e) { ");
            built.append("answers.add(\"throws \" + e.getClass().getSimpleName()); }\n");
        }
        return built.append("} }\n").toString();
    }

    private static List<String> answersOf(String program) throws IOException, ReflectiveOperationException {
        Path folder = Files.createDirectories(Path.of("build/readme"));
        Path file = Files.writeString(folder.resolve("ReadmeCalls.java"), program);
        String paths = System.getProperty("java.class.path");
        int failed = ToolProvider.getSystemJavaCompiler()
                .run(null, null, null, "-cp", paths, "-d", folder.toString(), file.toString());
        DUE.same("compiling the calls", failed, 0L);
        List<String> answers = new ArrayList<>();
        if (failed == 0) {
            try (URLClassLoader loader = new URLClassLoader(new URL[] {folder.toUri().toURL()})) {
                loader.loadClass("ReadmeCalls").getMethod("call", List.class).invoke(null, answers);
            }
        }
        return answers;
    }

    private static void everyCallIsShown(List<String> calls, String readme) {
        String all = String.join("\n", calls);
        for (var method : EpochDesk.class.getMethods()) {
            if (method.getDeclaringClass() == EpochDesk.class) {
                String name = method.getName();
                DUE.isTrue(name + " is shown", all.contains("desk." + name + "("));
                List<String> thrown = Stream.of(method.getExceptionTypes()).map(Class::getSimpleName).toList();
                Matcher row = Pattern.compile("\\| `" + name + "\\([^|]*\\|[^|]*\\|([^|]*)\\|").matcher(readme);
                DUE.isTrue(name + " has a row", row.find());
                DUE.same(name + " throws", row.group(1).strip(), String.join(", ", thrown));
            }
        }
    }

    /** The commands as they are shown, with a Yours.java that asks a new object. */
    private static void theWayToUseItWorks(String readme) throws IOException, ReflectiveOperationException {
        List<String> commands = linesOf("shell", readme);
        DUE.same("commands to use it", commands.size(), 2L);
        String compile = "javac -d build/use src/main/java/EpochDesk.java Yours.java";
        DUE.same("the first", commands.get(0), compile);
        DUE.same("the second", commands.get(1), "java -cp build/use Yours");
        Path yours = Files.createDirectories(Path.of("build/yours")).resolve("Yours.java");
        Files.writeString(yours, "public class Yours { public static int asked() { return new EpochDesk().wrong(); } }");
        String[] words = compile.replace("javac ", "").replace("Yours.java", yours.toString()).split(" ");
        DUE.same(compile, ToolProvider.getSystemJavaCompiler().run(null, null, null, words), 0L);
        URL folder = Path.of("build/use").toUri().toURL();
        try (URLClassLoader loader = new URLClassLoader(new URL[] {folder}, ClassLoader.getPlatformClassLoader())) {
            DUE.same("wrong()", loader.loadClass("Yours").getMethod("asked").invoke(null).toString(), "-1");
        }
    }

    private static void everyTestIsNamed(String readme) throws IOException {
        Set<String> named = new TreeSet<>();
        Matcher name = Pattern.compile("`(\\w+Test)`").matcher(readme);
        while (name.find()) {
            named.add(name.group(1));
        }
        try (Stream<Path> files = Files.list(Path.of("src/test/java"))) {
            Set<String> there = new TreeSet<>(files.map(file -> file.getFileName().toString())
                    .filter(file -> file.endsWith("Test.java")).map(file -> file.replace(".java", "")).toList());
            DUE.same("tests named", named.toString(), there.toString());
        }
    }
}
