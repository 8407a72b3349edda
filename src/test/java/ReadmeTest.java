import java.io.IOException;
import java.lang.reflect.Method;
import java.lang.reflect.Modifier;
import java.nio.file.Files;
import java.nio.file.Path;
import java.util.ArrayList;
import java.util.List;
import java.util.regex.Matcher;
import java.util.regex.Pattern;

/** The example of README.md answers what README.md says, and README.md leaves out no call. */
public final class ReadmeTest {
    private static final Pattern CALL = Pattern.compile("pool\\.(\\w+)\\((.*?)\\);(?:\\s*// (-?\\d+)(?::.*)?)?.*");

    public static void main(String[] args) throws IOException {
        Check check = new Check();
        String readme = Files.readString(Path.of("README.md"));
        List<String> rows = exampleAsRows(readme);
        check.due("README.md has an example", true, !rows.isEmpty());
        Rows.hold(check, "README.md", rows.toArray(new String[0]));
        for (Method m : TwinPool.class.getDeclaredMethods()) {
            if (Modifier.isPublic(m.getModifiers())) {
                check.due("README.md tells of " + m.getName(), true, readme.contains("`" + m.getName() + "("));
            }
        }
        check.end();
    }

    private static List<String> exampleAsRows(String readme) {
        List<String> rows = new ArrayList<>();
        int from = readme.indexOf("```java");
        int to = readme.indexOf("```", from + 3);
        if (from < 0 || to < 0) {
            return rows;
        }
        for (String line : readme.substring(from, to).split("\n")) {
            Matcher call = CALL.matcher(line.replaceFirst("^int c = ", ""));
            if (call.matches()) {
                rows.add(call.group(1) + arguments(call.group(2)) + (call.group(3) == null ? "" : " = " + call.group(3)));
            } else if (line.contains("pool.")) {
                throw new Error("README.md has a line that is not a call: " + line);
            }
        }
        return rows;
    }

    /** As Rows writes them; the example's chunk c is its first, so its number is 0. */
    private static String arguments(String text) {
        StringBuilder row = new StringBuilder();
        for (String argument : text.split(",")) {
            String known = argument.trim().replace("false", "0").replace("true", "1").replace("c", "0");
            row.append(known.isEmpty() ? "" : " ").append(known);
        }
        return row.toString();
    }
}
