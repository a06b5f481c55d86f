import java.io.IOException;
import java.lang.reflect.Method;
import java.lang.reflect.Modifier;
import java.nio.file.Files;
import java.nio.file.Path;
import java.util.regex.Matcher;
import java.util.regex.Pattern;

/** README.md: its example answers what it says, and it tells each call and each ERROR as the document does. */
public final class ReadmeTest {
    private static final String[] ERRORS = {"BEYOND", "NONE", "STATE", "FULL", "KIND"};
    private static final Pattern ROW = Pattern.compile("\\| `(\\w+)\\(([^)]*)\\)` \\|.*\\| ([^|]*)\\|\n");

    public static void main(String[] args) throws IOException, ReflectiveOperationException {
        String readme = Files.readString(Path.of("README.md"));
        String document = Files.readString(Path.of("../shared/DOC.md"));
        example(readme);
        calls(readme, document);
        errors(readme);
        yes("how to run the tests", readme.contains("\n.ci/run\n"));
        Due.end();
    }

    /** Each line of the example is a call with numbers, and its answer behind two strokes. */
    private static void example(String readme) throws ReflectiveOperationException {
        PeaSoup soup = new PeaSoup();
        Matcher line = Pattern.compile("\nsoup\\.(\\w+)\\(([^)]*)\\); *// (-?\\d+)").matcher(readme);
        int lines = 0;
        while (line.find()) {
            lines++;
            Due.is(line.group(), ask(soup, line.group(1), line.group(2).split(", *")), Long.parseLong(line.group(3)));
        }
        Due.is("every line of the example was asked", lines, readme.split("\nsoup\\.", -1).length - 1);
        yes("there is an example", lines > 0);
    }

    private static int ask(PeaSoup soup, String name, String[] words) throws ReflectiveOperationException {
        for (Method method : PeaSoup.class.getDeclaredMethods()) {
            if (Modifier.isPublic(method.getModifiers()) && method.getName().equals(name)) {
                Class<?>[] types = method.getParameterTypes();
                Object[] numbers = new Object[types.length];
                for (int i = 0; i < types.length; i++) {
                    long number = Long.decode(words[i].replace("L", ""));
                    numbers[i] = types[i] == long.class ? (Object) number : (Object) (int) number;
                }
                return (int) method.invoke(soup, numbers);
            }
        }
        throw new IllegalArgumentException("no such call: " + name);
    }

    /** A row for each call of the face, in its order, with its arguments and its ERRORS in their order. */
    private static void calls(String readme, String document) {
        Matcher row = ROW.matcher(readme);
        Matcher said = Pattern.compile("\n`int (\\w+)\\(([^)]*)\\)`: ([^\n]*)").matcher(document);
        int rows = 0;
        while (said.find() && row.find()) {
            rows++;
            String arguments = said.group(2).replaceAll("\\b(int|long) ", "");
            yes("a row for " + said.group(1), row.group(1).equals(said.group(1)));
            yes("arguments of " + said.group(1), row.group(2).equals(arguments));
            yes("ERRORS of " + said.group(1), row.group(3).trim().equals(errorsOf(said.group(3))));
        }
        Due.is("rows for all calls", rows, 43);
        yes("no row more", !row.find());
    }

    /** The ERRORS that a promise tells: each begins a sentence, or stands behind a semicolon. */
    private static String errorsOf(String promise) {
        StringBuilder those = new StringBuilder();
        Matcher one = Pattern.compile("[.;] (BEYOND|NONE|STATE|FULL|KIND)\\b").matcher(promise);
        while (one.find()) {
            those.append(those.length() == 0 ? "" : ", ").append(one.group(1));
        }
        if (promise.contains("(ahead of BEYOND of n)")) {
            those.append(", BEYOND");
        }
        return those.toString();
    }

    private static void errors(String readme) {
        for (int k = 1; k <= ERRORS.length; k++) {
            yes(ERRORS[k - 1], readme.contains("\n| " + (-1000000000 - k) + " | " + ERRORS[k - 1] + " | "));
        }
    }

    private static void yes(String what, boolean so) {
        Due.is(what, so ? 1 : 0, 1);
    }
}
