import java.io.IOException;
import java.lang.reflect.Method;
import java.lang.reflect.Modifier;
import java.nio.file.Files;
import java.nio.file.Paths;
import java.util.TreeSet;
import java.util.regex.Matcher;
import java.util.regex.Pattern;

/** What README.md tells: its lines of use are run, and each call of the face is named in it. */
public final class ReadmeTest {
    private static final Pattern MADE = Pattern.compile("InchBorders x = new InchBorders\\(\\);");
    private static final Pattern TAPE = Pattern.compile("tape\\(x, \"(.*)\"\\);");
    private static final Pattern CALL = Pattern.compile("x\\.(\\w+)\\(([^)]*)\\); +// (-?\\d+): .*");

    public static void main(String[] args) throws IOException, ReflectiveOperationException {
        String readme = Files.readString(Paths.get("README.md"));
        lines(readme);
        names(readme);
        Check.end();
    }

    private static void lines(String readme) throws ReflectiveOperationException {
        InchBorders x = null;
        int calls = 0;
        for (String line : readme.split("\n")) {
            Matcher tape = TAPE.matcher(line);
            Matcher call = CALL.matcher(line);
            if (MADE.matcher(line).matches()) {
                x = new InchBorders();
            } else if (x != null && tape.matches()) {
                Check.tape(x, tape.group(1));
            } else if (x != null && call.matches()) {
                String[] given = call.group(2).isEmpty() ? new String[0] : call.group(2).split(", ");
                Check.due(line, Check.called(x, call.group(1), given), call.group(3));
                calls++;
            } else if (x != null) {
                Check.due("'" + line + "' ends the lines of use", line, "```");
                break;
            }
        }
        Check.due("there are lines of use", calls > 10, true);
    }

    private static void names(String readme) {
        TreeSet<String> calls = new TreeSet<>();
        for (Method m : InchBorders.class.getDeclaredMethods()) {
            if (Modifier.isPublic(m.getModifiers())) {
                calls.add(m.getName());
            }
        }
        for (String name : calls) {
            Check.due(name + " is named", readme.contains("`" + name + "`"), true);
        }
    }
}
