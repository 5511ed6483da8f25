import java.io.IOException;
import java.lang.reflect.Method;
import java.lang.reflect.Modifier;
import java.nio.file.Files;
import java.nio.file.Path;
import java.util.ArrayList;
import java.util.List;
import java.util.Set;
import java.util.TreeSet;
import java.util.regex.Matcher;
import java.util.regex.Pattern;

/** README.md tells of every call, with its exceptions, and a mill answers as the example there says. */
public final class ReadmeTest {
    private static final Pattern TOLD = Pattern.compile("\\| `(\\w+)\\(([^)]*)\\)` \\| [^|]+ \\|([^|]*)\\|");
    private static final Pattern SHOWN = Pattern.compile("mill\\.(\\w+)\\(([^)]*)\\); +// ([^:]+)(: .+)?");
    private static final Pattern EXCEPTION = Pattern.compile("\\w+Exception");

    public static void main(String[] args) throws IOException {
        List<String> lines = Files.readAllLines(Path.of("README.md"));
        Set<String> face = new TreeSet<>();
        Set<String> names = new TreeSet<>();
        for (Method method : GustMill.class.getDeclaredMethods()) {
            if (Modifier.isPublic(method.getModifiers())) {
                face.add(faceOf(method));
                names.add(method.getName());
            }
        }
        Runs.same("the calls that README.md tells of", told(lines), face);
        Runs.same("the calls that the example in README.md shows", played(lines), names);
        Runs.end();
    }

    private static String faceOf(Method method) {
        List<String> exceptions = new ArrayList<>();
        for (Class<?> type : method.getExceptionTypes()) {
            exceptions.add(type.getSimpleName());
        }
        return method.getName() + " of " + method.getParameterCount() + ", throws " + exceptions;
    }

    /** The calls in the tables, as faceOf() writes them. */
    private static Set<String> told(List<String> lines) {
        Set<String> told = new TreeSet<>();
        for (String line : lines) {
            Matcher row = TOLD.matcher(line);
            if (row.matches()) {
                List<String> exceptions = new ArrayList<>();
                Matcher exception = EXCEPTION.matcher(row.group(3));
                while (exception.find()) {
                    exceptions.add(exception.group());
                }
                told.add(row.group(1) + " of " + partsOf(row.group(2)).length + ", throws " + exceptions);
            }
        }
        return told;
    }

    /** Plays the example, and returns the names of its calls. */
    private static Set<String> played(List<String> lines) {
        Set<String> names = new TreeSet<>();
        GustMill mill = new GustMill();
        for (String line : lines) {
            if (line.startsWith("mill.")) {
                Matcher row = SHOWN.matcher(line);
                Runs.same("can be read: " + line, row.matches(), true);
                if (row.matches()) {
                    names.add(row.group(1));
                    String got = Calls.answer(mill, row.group(1), numbersOf(row.group(2)));
                    Runs.same("README.md: " + line, got, row.group(3).replace("throws ", "throws."));
                }
            }
        }
        return names;
    }

    private static int[] numbersOf(String given) {
        String[] parts = partsOf(given);
        int[] numbers = new int[parts.length];
        for (int i = 0; i < parts.length; i++) {
            boolean isTruth = parts[i].equals("true") || parts[i].equals("false");
            numbers[i] = isTruth ? (parts[i].equals("true") ? 1 : 0) : Integer.parseInt(parts[i]);
        }
        return numbers;
    }

    private static String[] partsOf(String given) {
        return given.isEmpty() ? new String[0] : given.split(", ");
    }
}
