import java.io.IOException;
import java.lang.reflect.Constructor;
import java.lang.reflect.Field;
import java.lang.reflect.Method;
import java.lang.reflect.Modifier;
import java.nio.file.Files;
import java.nio.file.Path;
import java.util.ArrayList;
import java.util.Collections;
import java.util.List;
import java.util.Map;
import java.util.TreeMap;
import java.util.regex.Matcher;
import java.util.regex.Pattern;

/** The face is the document's, and the file keeps to what can be looked at of LANGUAGE.md. */
public final class LanguageTest {
    private static final Path DOCUMENT = Path.of("../shared/DOC.md");
    private static final Path PROGRAM = Path.of("src/main/java/PeaSoup.java");

    /** What is called from outside the program's own methods: rule 4's, as far as the program needs it. */
    private static final List<String> LIBRARY = List.of("System.arraycopy", "Arrays.copyOf", "Arrays.copyOfRange",
        "Arrays.fill", "Math.min", "Math.max", "Math.abs", "Integer.bitCount");
    private static final List<Class<?>> CONSTANTS = List.of(int.class, long.class, boolean.class, char.class,
        String.class, int[].class, long[].class, char[].class, byte[].class);
    private static final Pattern METHOD = Pattern.compile(
        "(?m)^( {4}| {8})(?:(?:public|private|static|final) )*[\\w\\[\\]]+ (\\w+)\\([^)]*\\) \\{\n(?s:(.*?))\n\\1\\}$");

    public static void main(String[] args) throws IOException {
        face();
        words();
        members();
        names();
        library();
        loops();
        Map<String, String> bodies = bodies();
        lengths(bodies);
        depths(bodies);
        Due.end();
    }

    /** The program without its comments. */
    private static String program() throws IOException {
        return Files.readString(PROGRAM).replaceAll("(?s)/\\*.*?\\*/", " ").replaceAll("//[^\n]*", " ");
    }

    private static void face() throws IOException {
        String document = Files.readString(DOCUMENT);
        List<String> due = new ArrayList<>();
        Matcher said = Pattern.compile("public int (\\w+)\\(([^)]*)\\);").matcher(document);
        while (said.find()) {
            due.add(said.group(1) + " " + said.group(2).replaceAll(" \\w+(,|$)", "$1").replace(" ", ""));
        }
        List<String> is = new ArrayList<>();
        for (Method method : PeaSoup.class.getDeclaredMethods()) {
            if (!Modifier.isPrivate(method.getModifiers())) {
                List<String> types = new ArrayList<>();
                for (Class<?> type : method.getParameterTypes()) {
                    types.add(type.getName());
                }
                is.add(method.getName() + " " + String.join(",", types));
                yes("answers an int: " + method, method.getReturnType() == int.class);
                yes("public, not static: " + method, method.getModifiers() == Modifier.PUBLIC);
            } else {
                yes("a private name of its own: " + method, !document.contains("public int " + method.getName() + "("));
            }
        }
        Collections.sort(due);
        Collections.sort(is);
        Due.is("methods of the face", is.size(), 43);
        yes("the face is the document's", is.equals(due));
        yes("public final", (PeaSoup.class.getModifiers() & (Modifier.PUBLIC | Modifier.FINAL))
            == (Modifier.PUBLIC | Modifier.FINAL));
        Constructor<?>[] made = PeaSoup.class.getDeclaredConstructors();
        yes("one public constructor", made.length == 1 && made[0].getModifiers() == Modifier.PUBLIC
            && made[0].getParameterCount() == 0);
    }

    private static void words() throws IOException {
        String program = program();
        String[] banned = {"throw", "throws", "try", "catch", "synchronized", "assert", "protected", "package",
            "hashCode", "toString", "System\\.out", "Object", "\\w+Exact", "->", "::", "Random", "Thread", "static \\{",
            "double", "float"};
        for (String word : banned) {
            String whole = Character.isLetter(word.charAt(0)) ? "\\b" + word + "\\b" : word;
            yes("no " + word, !Pattern.compile(whole).matcher(program).find());
        }
        yes("signs 1 to 127", program.chars().allMatch(sign -> sign > 0 && sign < 128));
        Matcher imports = Pattern.compile("import ([^;]*);").matcher(program);
        while (imports.find()) {
            yes("imports what it may: " + imports.group(1), imports.group(1).equals("java.util.Arrays"));
        }
    }

    private static void members() {
        Class<?>[] classes = PeaSoup.class.getDeclaredClasses();
        yes("at most some twelve classes", classes.length + 1 <= 12);
        ofClass(PeaSoup.class);
        for (Class<?> inside : classes) {
            int how = inside.getModifiers();
            yes("static, not public: " + inside, Modifier.isStatic(how) && !Modifier.isPublic(how)
                && !Modifier.isProtected(how));
            ofClass(inside);
        }
    }

    private static void ofClass(Class<?> one) {
        int fields = 0;
        for (Field field : one.getDeclaredFields()) {
            int how = field.getModifiers();
            if (Modifier.isStatic(how)) {
                yes("final: " + field, Modifier.isFinal(how));
                yes("a constant: " + field, CONSTANTS.contains(field.getType()));
            } else {
                fields++;
            }
            yes("private: " + field, one != PeaSoup.class || Modifier.isPrivate(how));
        }
        yes("some twenty fields: " + one, fields <= 20);
        for (Method method : one.getDeclaredMethods()) {
            yes("seven parameters: " + method, method.getParameterCount() <= 7);
        }
    }

    /** Rule 1: no method inside bears the name of one of the face. */
    private static void names() {
        List<String> face = new ArrayList<>();
        for (Method method : PeaSoup.class.getDeclaredMethods()) {
            if (Modifier.isPublic(method.getModifiers())) {
                face.add(method.getName());
            }
        }
        for (Class<?> inside : PeaSoup.class.getDeclaredClasses()) {
            for (Method method : inside.getDeclaredMethods()) {
                yes("a name of its own: " + method, !face.contains(method.getName()));
            }
        }
    }

    private static void library() throws IOException {
        Matcher call = Pattern.compile("\\b(System|Arrays|Math|Integer|Long|String|Character|List)\\.\\w+")
            .matcher(program());
        while (call.find()) {
            yes("of the library: " + call.group(), LIBRARY.contains(call.group()));
        }
    }

    /** Rule 9: loops are counters against a bound, alone or with another reason to end. */
    private static void loops() throws IOException {
        String program = program();
        yes("no while", !Pattern.compile("\\b(while|do)\\b").matcher(program).find());
        Matcher loop = Pattern.compile("\\bfor \\(([^\n]*)\\) \\{\n").matcher(program);
        int loops = 0;
        while (loop.find()) {
            loops++;
            yes("a counter: " + loop.group(1),
                loop.group(1).matches("int (\\w+) = [^;]*; \\1 <=? [\\w.]+( &&[^;]*)?; (\\1\\+\\+|\\1 \\+= \\w+)"));
        }
        Due.is("every loop was looked at", loops, program.split("\\bfor\\b", -1).length - 1);
    }

    /** The methods of the program by name; those of one name in several classes are taken as one. */
    private static Map<String, String> bodies() throws IOException {
        Map<String, String> bodies = new TreeMap<>();
        Matcher method = METHOD.matcher(program());
        while (method.find()) {
            bodies.merge(method.group(2), method.group(3), (one, more) -> one + "\n" + more);
        }
        List<Class<?>> classes = new ArrayList<>(List.of(PeaSoup.class.getDeclaredClasses()));
        classes.add(PeaSoup.class);
        for (Class<?> one : classes) {
            for (Method each : one.getDeclaredMethods()) {
                yes("was found: " + each, bodies.containsKey(each.getName()));
            }
        }
        return bodies;
    }

    private static void lengths(Map<String, String> bodies) {
        for (String name : bodies.keySet()) {
            yes("some sixty lines: " + name, bodies.get(name).split("\n").length <= 60);
        }
    }

    /** Rule 11: calls that are no recursion go at most eight deep. */
    private static void depths(Map<String, String> bodies) {
        int deepest = 0;
        for (String name : bodies.keySet()) {
            int deep = depth(name, bodies, new ArrayList<>());
            yes("eight deep: " + name, deep <= 8);
            deepest = Math.max(deepest, deep);
        }
        System.out.println("calls go " + deepest + " deep");
    }

    /** How many calls stand open at most below one; a name that stands open already is recursion. */
    private static int depth(String name, Map<String, String> bodies, List<String> open) {
        open.add(name);
        int most = 0;
        Matcher call = Pattern.compile("([A-Z]\\w*\\.)?\\b(\\w+)\\(").matcher(bodies.get(name));
        while (call.find()) {
            String other = call.group(2);
            if (LIBRARY.contains(call.group().replace("(", ""))) {
                most = Math.max(most, 1);
            } else if (bodies.containsKey(other) && !open.contains(other)) {
                most = Math.max(most, depth(other, bodies, open));
            }
        }
        open.remove(name);
        return most + 1;
    }

    private static void yes(String what, boolean so) {
        Due.is(what, so ? 1 : 0, 1);
    }
}
