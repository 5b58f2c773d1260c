import java.io.IOException;
import java.nio.file.Files;
import java.nio.file.Path;
import java.util.regex.Matcher;
import java.util.regex.Pattern;

/** What LANGUAGE.md leaves out of Java can't be found in the class. Run from the project's folder. */
public final class SourceTest {
    private static final String[] LEFT_OUT = {
        "\\b(throw|throws|try|catch|finally|synchronized|assert|package|native|volatile|transient|var|yield)\\b",
        "->", "::", "\\w+Exact\\b", "\\bstatic\\s*\\{", "\\bnew\\s+\\w+\\s*\\([^()]*\\)\\s*\\{",
        "\\b(equals|hashCode|toString|Object|Thread|Random|System\\.(?!arraycopy)\\w+)\\b", "@\\w+"
    };

    private SourceTest() {
    }

    public static void main(String[] args) throws IOException {
        Check check = new Check();
        String source = Files.readString(Path.of("src/main/java/DarkRoom.java"));
        String code = source.replaceAll("(?s)/\\*.*?\\*/", "").replaceAll("//[^\n]*", "");
        for (String pattern : LEFT_OUT) {
            Matcher found = Pattern.compile(pattern).matcher(code);
            check.holds(pattern + (found.find() ? " is there: " + found.group() : ""), !found.reset().find());
        }
        Matcher imports = Pattern.compile("import\\s+([\\w.*]+);").matcher(code);
        while (imports.find()) {
            check.holds("import " + imports.group(1), imports.group(1).matches("java\\.util\\.(Arrays|ArrayList|List)"));
        }
        Matcher made = Pattern.compile("new\\s+(\\w+)").matcher(code);
        while (made.find()) {
            check.holds("new " + made.group(1), code.contains("class " + made.group(1) + " ")
                    || made.group(1).equals("int") || made.group(1).equals("boolean"));
        }
        checkLengths(check, source);
        check.end();
    }

    /** Rule 11: a method, which ends where a brace stands under its first word, has at most some sixty lines. */
    private static void checkLengths(Check check, String source) {
        String shape = "(?ms)^((?: {4}){1,2})(?! |for|if|while|switch|\\})[^\\n;]*\\) \\{$(.*?)^\\1\\}";
        Matcher method = Pattern.compile(shape).matcher(source);
        int methods = 0;
        while (method.find()) {
            methods++;
            long lines = method.group(2).lines().count() + 1;
            check.holds(method.group().lines().findFirst().orElse("").strip() + " has " + lines + " lines", lines <= 60);
        }
        check.holds("methods were found", methods > 100);
    }
}
