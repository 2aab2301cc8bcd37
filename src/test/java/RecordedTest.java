import java.io.IOException;
import java.nio.charset.StandardCharsets;
import java.nio.file.Files;
import java.nio.file.Path;
import java.util.List;

/**
 * Promises 4 to 10 together: programs with what they are due to answer, told by other programs that were written
 * from the document by themselves. A line has the fuel, the fault (-1: of the text), its place, the fuel that is
 * left, the output and the program.
 */
public final class RecordedTest {
    private static String plain(String text) {
        StringBuilder all = new StringBuilder();
        for (int i = 0; i < text.length(); i++) {
            char c = text.charAt(i);
            if (c == '\\') {
                i++;
                char d = text.charAt(i);
                c = d == 'n' ? '\n' : d == 't' ? '\t' : d == 'r' ? '\r' : d;
            }
            all.append(c);
        }
        return all.toString();
    }

    private static void look(String line) {
        String[] part = line.split("\t", -1);
        String text = plain(part[5]);
        Desk desk = new Desk();
        int fault = desk.compile(text);
        if (fault != EquationBench.NONE) {
            fault = desk.bench.run(Integer.parseInt(part[0]));
        }
        Desk.same("fault of " + text, Integer.parseInt(part[1]), fault);
        Desk.same("place in " + text, Integer.parseInt(part[2]), desk.bench.place());
        Desk.same("left of " + text, Integer.parseInt(part[3]), desk.bench.left());
        Desk.same("output of " + text, plain(part[4]), desk.output());
    }

    public static void main(String[] args) throws IOException {
        List<String> lines = Files.readAllLines(Path.of("src/test/data/recorded.txt"), StandardCharsets.ISO_8859_1);
        for (String line : lines) {
            look(line);
        }
        Desk.same("there are some", true, lines.size() > 1000);
        Desk.finish();
    }
}
