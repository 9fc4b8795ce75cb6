import java.io.IOException;
import java.nio.file.Files;
import java.nio.file.Path;
import java.util.Set;
import java.util.TreeSet;
import java.util.regex.Matcher;
import java.util.regex.Pattern;

/** What of LANGUAGE.md can be seen in the source's letters; .ci/run starts it at the project's root. */
public final class LanguageTest {
    private static final Due DUE = new Due("LanguageTest");

    private static final String[] NEVER = {
        "->", "::", "\\btry\\b", "\\bcatch\\b", "\\bfinally\\b", "\\bsynchronized\\b", "\\bassert\\b", "\\bvar\\b",
        "\\bSystem\\.(?!arraycopy)", "\\bThread\\b", "\\bRandom\\b", "\\w+Exact\\b", "\\bstatic\\s*\\{", "\\bpackage\\b",
        "\\bstatic final (double|float|double\\[\\]|float\\[\\])", "\\bhashCode\\b", "\\btoString\\b", "\\bnative\\b",
    };

    public static void main(String[] args) throws IOException {
        String whole = Files.readString(Path.of("src/main/java/EpochDesk.java"));
        String code = whole.replaceAll("(?s)/\\*.*?\\*/", "").replaceAll("//[^\n]*", "");
        DUE.same("letters beyond ASCII", whole.matches("(?s)[\\n -~]*") ? 0L : 1L, 0L);
        for (String never : NEVER) {
            DUE.same("places of " + never, placesOf(never, code), 0L);
        }
        DUE.same("imports", all("import [^;]*;", code), "[import java.util.NoSuchElementException;]");
        onlyOf(Set.of("Math.floorDiv", "Math.floorMod", "Math.min", "Math.max", "Math.abs"), "\\bMath\\.\\w+", code);
        onlyOf(Set.of("Long.compare", "Long.min", "Long.max"), "\\b(Long|Integer)\\.\\w+", code);
        everyThrowIsPlain(code);
        methodsAreShort(code);
        DUE.end();
    }

    private static long placesOf(String pattern, String code) {
        return Pattern.compile(pattern).matcher(code).results().count();
    }

    private static String all(String pattern, String code) {
        Set<String> found = new TreeSet<>();
        Matcher matcher = Pattern.compile(pattern).matcher(code);
        while (matcher.find()) {
            found.add(matcher.group());
        }
        return found.toString();
    }

    private static void onlyOf(Set<String> allowed, String pattern, String code) {
        Matcher matcher = Pattern.compile(pattern).matcher(code);
        while (matcher.find()) {
            DUE.same(matcher.group() + " is allowed", allowed.contains(matcher.group()) ? 1L : 0L, 1L);
        }
    }

    private static void everyThrowIsPlain(String code) {
        String plain = "\\bthrow new (IllegalStateException|IllegalArgumentException|IndexOutOfBoundsException"
                + "|ArithmeticException|NoSuchElementException)\\((\"[^\"]*\")?\\);";
        DUE.same("throws that are not plain", placesOf("\\bthrow\\b", code) - placesOf(plain, code), 0L);
    }

    /** From a line that opens a method's body to the one that closes it, by how far they are set in. */
    private static void methodsAreShort(String code) {
        String[] lines = code.split("\n");
        int methods = 0;
        for (int i = 0; i < lines.length; i++) {
            if (lines[i].matches("( {4}| {8})(?!if |for |while |switch |do )[^ }@].*\\)( throws [\\w, ]+)? \\{")) {
                String close = lines[i].replaceAll("[^ ].*", "") + "}";
                int end = i;
                while (end < lines.length && !lines[end].equals(close)) {
                    end++;
                }
                DUE.isTrue(lines[i].strip() + " has at most 60 lines", end - i < 60);
                methods++;
            }
        }
        DUE.isTrue("methods were found", methods > 50);
    }
}
