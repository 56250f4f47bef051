import java.io.IOException;
import java.lang.reflect.Method;
import java.lang.reflect.Modifier;
import java.net.URL;
import java.net.URLClassLoader;
import java.nio.file.Files;
import java.nio.file.Path;
import java.util.Arrays;
import java.util.regex.Matcher;
import java.util.regex.Pattern;
import javax.tools.ToolProvider;

/** What README.md says of calls holds: its village is read, its calls answer as they stand there, none is left out. */
public final class ReadmeTest {
    private static final Pattern TEXT = Pattern.compile("(?s)```text\n(.*?)```");
    private static final Pattern CODE = Pattern.compile("(?s)```java\n(.*?)```");
    private static final Pattern CALLS = Pattern.compile("(?s)```calls\n(.*?)```");
    private static final Pattern CALL = Pattern.compile("(\\w+)\\((.*?)\\) +(\\S+) .*");

    public static void main(String[] args) throws ReflectiveOperationException, IOException {
        String page = Files.readString(Path.of("README.md"));
        Matcher text = TEXT.matcher(page);
        Check.same("README.md has a village", text.find(), true);
        Matcher code = CODE.matcher(page);
        Check.same("README.md has code that tells it", code.find(), true);
        StoneTrust x = new StoneTrust();
        Check.same("lines of its village", tell(x, text.group(1), code.group(1)), text.group(1).split("\n").length);
        Matcher calls = CALLS.matcher(page);
        while (calls.find()) {
            for (String line : calls.group(1).split("\n")) {
                Matcher call = CALL.matcher(line);
                Check.same("is a call: " + line, call.matches(), true);
                Check.same(line, answer(x, call.group(1), call.group(2)), call.group(3));
            }
        }
        for (Method m : StoneTrust.class.getDeclaredMethods()) {
            if (Modifier.isPublic(m.getModifiers())) {
                Check.same("README.md has " + m.getName(), page.contains(m.getName() + "("), true);
            }
        }
        Check.end();
    }

    /** Tells the text by the code that stands on the page. */
    private static int tell(StoneTrust x, String text, String code) throws ReflectiveOperationException, IOException {
        Path work = Files.createTempDirectory("readme");
        Path file = work.resolve("Page.java");
        try {
            Files.writeString(file, "public final class Page {\n" + code.replace("static int tell", "public static int tell")
                + "}\n");
            String known = System.getProperty("java.class.path");
            Check.same("its code compiles", ToolProvider.getSystemJavaCompiler().run(null, null, null,
                "-cp", known, "-d", work.toString(), file.toString()), 0);
            try (URLClassLoader loader = new URLClassLoader(new URL[] {work.toUri().toURL()})) {
                Method tell = loader.loadClass("Page").getMethod("tell", StoneTrust.class, String.class);
                return (Integer) tell.invoke(null, x, text);
            }
        } finally {
            Files.deleteIfExists(work.resolve("Page.class"));
            Files.deleteIfExists(file);
            Files.deleteIfExists(work);
        }
    }

    private static String answer(StoneTrust x, String name, String given) throws ReflectiveOperationException {
        Object[] values = Arrays.stream(given.split(", ")).map(ReadmeTest::value).toArray();
        for (Method m : StoneTrust.class.getMethods()) {
            if (m.getName().equals(name) && m.getParameterCount() == values.length) {
                return m.invoke(x, values).toString();
            }
        }
        return "no such call";
    }

    private static Object value(String word) {
        return word.equals("true") || word.equals("false") ? (Object) Boolean.valueOf(word) : Integer.valueOf(word);
    }
}
