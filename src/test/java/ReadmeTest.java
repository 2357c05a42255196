import java.io.IOException;
import java.nio.file.Files;
import java.nio.file.Path;
import java.util.Set;
import java.util.TreeSet;
import java.util.regex.Matcher;
import java.util.regex.Pattern;

/** The example in README.md: each call answers what its comment begins with. */
public final class ReadmeTest {
    private static final Pattern NEW = Pattern.compile("SliceHeap heap = new SliceHeap\\((\\d+)\\);");
    private static final Pattern CALL = Pattern.compile("heap\\.(\\w+)\\(([-\\d, ]+)\\); *// (true|false|-?\\d+): .*");
    private static final int METHODS = 13;

    public static void main(String[] args) throws IOException {
        SliceHeap heap = null;
        Set<String> called = new TreeSet<>();
        for (String line : Files.readAllLines(Path.of("README.md"))) {
            Matcher made = NEW.matcher(line);
            Matcher call = CALL.matcher(line);
            if (made.matches()) {
                heap = new SliceHeap(Integer.parseInt(made.group(1)));
            } else if (call.matches()) {
                called.add(call.group(1));
                Check.due("README.md", heap, answer(call.group(3)), call.group(1), ints(call.group(2)));
            } else {
                Check.due("not understood: " + line, line.startsWith("heap."), false);
            }
        }
        Check.due("methods that the example calls", called.size(), METHODS);
        Check.end();
    }

    private static long answer(String told) {
        return told.equals("true") ? 1 : told.equals("false") ? 0 : Long.parseLong(told);
    }

    private static int[] ints(String told) {
        return Pattern.compile(", ").splitAsStream(told).mapToInt(Integer::parseInt).toArray();
    }
}
