import java.io.ByteArrayOutputStream;
import java.io.IOException;
import java.io.PrintStream;
import java.lang.reflect.Method;
import java.lang.reflect.Modifier;
import java.nio.charset.StandardCharsets;
import java.nio.file.Files;
import java.nio.file.Path;

/** README.md tells each method, and its example is the one that is there and writes what it says. */
public final class ReadmeTest {
    private static String exampleWrites() {
        PrintStream usual = System.out;
        ByteArrayOutputStream written = new ByteArrayOutputStream();
        System.setOut(new PrintStream(written, true, StandardCharsets.ISO_8859_1));
        Example.main(new String[0]);
        System.setOut(usual);
        return written.toString(StandardCharsets.ISO_8859_1).replace(System.lineSeparator(), "\n");
    }

    /** What stands in the page between the marks of a block of that sort, the first one. */
    private static String block(String page, String sort) {
        int from = page.indexOf("```" + sort + "\n");
        if (from < 0) {
            return "no block " + sort;
        }
        int begin = from + sort.length() + 4;
        return page.substring(begin, page.indexOf("```", begin));
    }

    public static void main(String[] args) throws IOException {
        String page = Files.readString(Path.of("README.md"), StandardCharsets.ISO_8859_1);
        String example = Files.readString(Path.of("src/example/java/Example.java"), StandardCharsets.ISO_8859_1);
        Desk.same("the example's text", example, block(page, "java"));
        Desk.same("what the example writes", exampleWrites(), block(page, "text"));
        for (Method method : EquationBench.class.getDeclaredMethods()) {
            if (Modifier.isPublic(method.getModifiers())) {
                Desk.same("README tells " + method.getName(), true, page.contains("`" + method.getName() + "("));
            }
        }
        Desk.finish();
    }
}
