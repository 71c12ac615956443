import java.io.IOException;
import java.lang.reflect.Method;
import java.lang.reflect.Modifier;
import java.nio.file.Files;
import java.nio.file.Path;
import java.util.List;
import java.util.regex.Matcher;
import java.util.regex.Pattern;

/** README.md's example answers as it says, and README.md tells of each call; run from the project's directory. */
public final class ReadmeTest {
    private static final Path README = Path.of("README.md");
    /** A call on x with its answer behind it. */
    private static final Pattern CALL = Pattern.compile("x\\.(\\w+)\\(([-\\d, ]*)\\);\\s+// (-?\\d+)(:.*)?");

    public static void main(String[] args) throws IOException, ReflectiveOperationException {
        String text = Files.readString(README);
        example(linesOfExample(text));
        for (Method m : SegmentMerges.class.getDeclaredMethods()) {
            if (Modifier.isPublic(m.getModifiers())) {
                Check.due("README.md tells of " + m.getName(), text.contains("`" + m.getName() + "(") ? 1 : 0, 1);
            }
        }
        Check.finish();
    }

    private static List<String> linesOfExample(String text) {
        String opening = "```java\n";
        int from = text.indexOf(opening);
        int to = from < 0 ? -1 : text.indexOf("```", from + opening.length());
        return to < 0 ? List.of() : text.substring(from + opening.length(), to).lines().toList();
    }

    private static void example(List<String> lines) throws ReflectiveOperationException {
        boolean makesOne = !lines.isEmpty() && lines.get(0).equals("SegmentMerges x = new SegmentMerges();");
        Check.due("the example begins with a new object", makesOne ? 1 : 0, 1);
        SegmentMerges x = new SegmentMerges();
        for (int n = 1; n < lines.size(); n++) {
            Matcher call = CALL.matcher(lines.get(n));
            boolean readable = call.matches();
            Check.due("is a call with its answer: " + lines.get(n), readable ? 1 : 0, 1);
            if (readable) {
                int got = answer(x, call.group(1), call.group(2));
                Check.due(lines.get(n), got, Integer.parseInt(call.group(3)));
            }
        }
    }

    private static int answer(SegmentMerges x, String name, String written) throws ReflectiveOperationException {
        String[] parts = written.isEmpty() ? new String[0] : written.split(", ");
        Class<?>[] types = new Class<?>[parts.length];
        Object[] values = new Object[parts.length];
        for (int i = 0; i < parts.length; i++) {
            types[i] = int.class;
            values[i] = Integer.valueOf(parts[i]);
        }
        return (Integer) SegmentMerges.class.getMethod(name, types).invoke(x, values);
    }
}
