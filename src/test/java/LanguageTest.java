import java.nio.file.Files;
import java.nio.file.Path;
import java.util.List;
import java.util.regex.Matcher;
import java.util.regex.Pattern;

/** What of LANGUAGE.md can be seen in the text of the program. */
public final class LanguageTest {
    private static final String[] FORBIDDEN = {
        "^package ", "->", "::", "\\bcatch\\b", "\\btry\\b", "\\bfinally\\b", "\\bsynchronized\\b", "\\bassert\\b",
        "\\bthrow\\b", "\\bvar\\b", "Exact\\(", "\\bhashCode\\b", "\\btoString\\(", "System\\.(?!arraycopy)",
        "\\bThread\\b", "\\bRandom\\b", "\\bString\\.", "\\bstatic \\{", "\\bObject\\b", "\\bdouble\\b",
        "\\bfloat\\b", "while \\(true", "for \\(;;\\)"
    };

    public static void main(String[] args) throws Exception {
        Check check = new Check("LanguageTest");
        List<String> lines = Files.readAllLines(Path.of("src/main/java/BrokeWhere.java"));
        int classes = 0;
        int opened = -1;
        for (int i = 0; i < lines.size(); i++) {
            String code = withoutComment(lines.get(i));
            for (String bad : FORBIDDEN) {
                check.so("line " + (i + 1) + " is free of " + bad, !Pattern.compile(bad).matcher(code).find());
            }
            check.so("line " + (i + 1) + " is plain", lines.get(i).chars().allMatch(c -> c >= 32 && c < 127));
            if (code.startsWith("import ")) {
                check.so(code, code.equals("import java.util.Arrays;"));
            }
            Matcher library = Pattern.compile("\\b(Arrays|Math|Integer|Long)\\.(\\w+)").matcher(code);
            while (library.find()) {
                check.so(library.group(), List.of("fill", "max", "min", "abs", "bitCount").contains(library.group(2)));
            }
            classes += Pattern.compile("\\bclass \\w+ \\{").matcher(code).find() ? 1 : 0;
            if (code.matches(" {4,8}[\\w\\[\\]<> ]+\\([^;]*\\) \\{")) {
                opened = i;
            }
            if (opened >= 0 && code.matches(" {4,8}\\}") && indent(code) == indent(lines.get(opened))) {
                check.so("the method of line " + (opened + 1) + " is short", i - opened <= 60);
                opened = -1;
            }
        }
        check.so("at most twelve classes", classes <= 12);
        check.end();
    }

    private static int indent(String line) {
        return line.length() - line.stripLeading().length();
    }

    private static String withoutComment(String line) {
        String bare = line.strip();
        if (bare.startsWith("*") || bare.startsWith("/*")) {
            return "";
        }
        int at = line.indexOf("//");
        return at < 0 ? line : line.substring(0, at);
    }
}
