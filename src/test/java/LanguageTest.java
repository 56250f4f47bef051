import java.io.IOException;
import java.nio.file.Files;
import java.nio.file.Path;
import java.util.List;
import java.util.regex.Matcher;
import java.util.regex.Pattern;

/** Those rules of LANGUAGE.md that can be seen in the text of the program. */
public final class LanguageTest {
    private static final List<String> NEVER = List.of("\\bthrow\\b", "\\bthrows\\b", "\\btry\\b", "\\bcatch\\b",
        "\\bsynchronized\\b", "\\bassert\\b", "->", "::", "\\bpackage\\b", "Exact\\b", "\\bfloat\\b", "\\bdouble\\b",
        "\\bHashMap\\b", "\\bprintln\\b", "\\bstatic \\{", "\\bprotected\\b", "\\bObject\\b", "\\bthis\\b");
    private static final Pattern HEAD = Pattern.compile("^ {4,8}(?! )(?!.*\\bclass\\b)[a-zA-Z].*\\((.*)\\) \\{$");

    public static void main(String[] args) throws IOException {
        String text = Files.readString(Path.of("src/main/java/StoneTrust.java"));
        String code = text.replaceAll("(?s)/\\*.*?\\*/", "").replaceAll("//[^\n]*", "");
        for (String never : NEVER) {
            Check.same("the program has " + never, Pattern.compile(never).matcher(code).find(), false);
        }
        Matcher imports = Pattern.compile("import ([a-zA-Z.]+);").matcher(code);
        while (imports.find()) {
            Check.same("import", imports.group(1), "java.util.Arrays");
        }
        Matcher calls = Pattern.compile("\\b(Arrays|Math|Integer|Long|System)\\.(\\w+)").matcher(code);
        List<String> library = List.of("Arrays.fill", "Arrays.copyOf", "Math.max", "Math.min", "Math.floorDiv",
            "Integer.bitCount");
        while (calls.find()) {
            Check.same("the library's " + calls.group(), library.contains(calls.group()), true);
        }
        for (char c : text.toCharArray()) {
            if (c > 126) {
                Check.same("a sign beyond 126", (int) c, 126);
            }
        }
        checkMethods(code.split("\n"));
        Check.same("classes inside", code.split("static final class ").length - 1 <= 12, true);
        Check.end();
    }

    private static void checkMethods(String[] lines) {
        for (int i = 0; i < lines.length; i++) {
            Matcher head = HEAD.matcher(lines[i]);
            if (head.find()) {
                String indent = lines[i].replaceAll("\\S.*", "");
                int end = i;
                while (!lines[end].equals(indent + "}")) {
                    end++;
                }
                Check.same(lines[i].trim() + " is short", end - i <= 60, true);
                Check.same(lines[i].trim() + " takes few", head.group(1).split(",").length <= 7, true);
            }
        }
    }
}
