import java.io.IOException;
import java.nio.file.Files;
import java.nio.file.Path;
import java.util.Arrays;
import java.util.List;
import java.util.regex.Matcher;
import java.util.regex.Pattern;

/** Rules of ../shared/LANGUAGE.md that can be seen in the source; it is run from the project's folder. */
public final class LanguageTest {
    private static final Path SOURCE = Path.of("src/main/java/LiveryYard.java");
    private static final List<String> FORBIDDEN = Arrays.asList(
            "\\b(throw|throws|try|catch|finally|synchronized|assert|volatile|transient|native)\\b",
            "->", "::", "\\bvar\\b", "\\bnew\\s+\\w+\\s*(<[^>]*>)?\\s*\\([^)]*\\)\\s*\\{", "\\bstatic\\s*\\{",
            "Exact\\b", "\\b(System\\.(?!arraycopy)\\w+|Thread|Random|Object|Exception|Iterator)\\b",
            "\\bpackage\\b", "\"\\s*\\+", "\\+\\s*\"", "\\b(float|double|Double|Float|Long|Character)\\b",
            "\\b(hashCode|toString|equals|getClass)\\b");

    public static void main(String[] args) throws IOException {
        String source = Files.readString(SOURCE);
        String code = source.replaceAll("(?s)/\\*.*?\\*/", " ").replaceAll("//[^\n]*", " ");
        for (String pattern : FORBIDDEN) {
            Check.same("in the source: " + pattern, Pattern.compile(pattern).matcher(code).find(), false);
        }
        Check.same("signs beyond 127", source.chars().anyMatch(c -> c > 127), false);
        Check.same("imports other than Arrays", code.replace("import java.util.Arrays;", "").contains("import"), false);
        Check.same("classes", count(code, "\\bclass\\b") <= 12, true);
        Check.same("inner classes that aren't static", count(code, "(?<!static )final class\\b"), 1);
        Check.same("loops without a bound", Pattern.compile("while\\s*\\(true\\)|for\\s*\\(;;").matcher(code).find(), false);
        members(code);
        methods(code);
        Check.end();
    }

    private static int count(String code, String pattern) {
        return (int) Pattern.compile(pattern).matcher(code).results().count();
    }

    /** The outer class has private or public members alone; static fields are final. */
    private static void members(String code) {
        for (String line : code.split("\n")) {
            if (line.matches("    [a-zA-Z].*")) {
                Check.same("visible: " + line, line.matches("    (public|private) .*"), true);
            }
            if (line.matches("\\s*(private |public )?static (?!final )[^(]*(=.*)?;")) {
                Check.same("a static that can change: " + line, false, true);
            }
        }
    }

    /** Methods have at most sixty lines and seven parameters; none inside bears a name of the face. */
    private static void methods(String code) {
        String face = " horse lame field shut gate feed end rules fault may meet plan tries out stuck lot takes price "
                + "falls night bin foretold work due bill lacked about ";
        Pattern method = Pattern.compile("\n( +)(public |private |)(static |)(int|boolean|void) (\\w+)\\(([^)]*)\\) \\{\n");
        Matcher m = method.matcher(code);
        int found = 0;
        while (m.find()) {
            found++;
            int end = code.indexOf("\n" + m.group(1) + "}", m.end() - 1);
            long lines = code.substring(m.start() + 1, end).lines().count() + 1;
            Check.same(m.group(5) + " is short", lines <= 60, true);
            Check.same(m.group(5) + " has few parameters", m.group(6).split(",").length <= 7, true);
            boolean ofFace = face.contains(" " + m.group(5) + " ");
            Check.same(m.group(5) + " is public", m.group(2).equals("public "), ofFace);
        }
        Check.same("methods were found", found > 100, true);
    }
}
