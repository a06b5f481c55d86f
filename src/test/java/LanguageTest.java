import java.io.IOException;
import java.lang.reflect.Constructor;
import java.lang.reflect.Field;
import java.lang.reflect.Method;
import java.lang.reflect.Modifier;
import java.nio.file.Files;
import java.nio.file.Path;
import java.util.ArrayList;
import java.util.Collections;
import java.util.List;
import java.util.regex.Matcher;
import java.util.regex.Pattern;

/** The face is the document's, and the file keeps to what can be looked at of LANGUAGE.md. */
public final class LanguageTest {
    private static final Path DOCUMENT = Path.of("../shared/DOC.md");
    private static final Path PROGRAM = Path.of("src/main/java/PeaSoup.java");

    public static void main(String[] args) throws IOException {
        face();
        words();
        members();
        Due.end();
    }

    private static void face() throws IOException {
        String document = Files.readString(DOCUMENT);
        List<String> due = new ArrayList<>();
        Matcher said = Pattern.compile("public int (\\w+)\\(([^)]*)\\);").matcher(document);
        while (said.find()) {
            due.add(said.group(1) + " " + said.group(2).replaceAll(" \\w+(,|$)", "$1").replace(" ", ""));
        }
        List<String> is = new ArrayList<>();
        for (Method method : PeaSoup.class.getDeclaredMethods()) {
            if (!Modifier.isPrivate(method.getModifiers())) {
                List<String> types = new ArrayList<>();
                for (Class<?> type : method.getParameterTypes()) {
                    types.add(type.getName());
                }
                is.add(method.getName() + " " + String.join(",", types));
                yes("answers an int: " + method, method.getReturnType() == int.class);
                yes("public, not static: " + method, method.getModifiers() == Modifier.PUBLIC);
            } else {
                yes("a private name of its own: " + method, !document.contains("public int " + method.getName() + "("));
            }
        }
        Collections.sort(due);
        Collections.sort(is);
        Due.is("methods of the face", is.size(), 43);
        yes("the face is the document's", is.equals(due));
        yes("public final", (PeaSoup.class.getModifiers() & (Modifier.PUBLIC | Modifier.FINAL))
            == (Modifier.PUBLIC | Modifier.FINAL));
        Constructor<?>[] made = PeaSoup.class.getDeclaredConstructors();
        yes("one public constructor", made.length == 1 && made[0].getModifiers() == Modifier.PUBLIC
            && made[0].getParameterCount() == 0);
    }

    private static void words() throws IOException {
        String program = Files.readString(PROGRAM).replaceAll("(?s)/\\*.*?\\*/", " ").replaceAll("//[^\n]*", " ");
        String[] banned = {"throw", "throws", "try", "catch", "synchronized", "assert", "protected", "package",
            "hashCode", "toString", "System\\.out", "Object", "\\w+Exact", "->", "::", "Random", "Thread", "static \\{",
            "double", "float"};
        for (String word : banned) {
            String whole = Character.isLetter(word.charAt(0)) ? "\\b" + word + "\\b" : word;
            yes("no " + word, !Pattern.compile(whole).matcher(program).find());
        }
        yes("signs 1 to 127", program.chars().allMatch(sign -> sign > 0 && sign < 128));
        Matcher imports = Pattern.compile("import ([^;]*);").matcher(program);
        while (imports.find()) {
            yes("imports what it may: " + imports.group(1), imports.group(1).equals("java.util.Arrays"));
        }
    }

    private static void members() {
        Class<?>[] classes = PeaSoup.class.getDeclaredClasses();
        yes("at most some twelve classes", classes.length + 1 <= 12);
        ofClass(PeaSoup.class);
        for (Class<?> inside : classes) {
            int how = inside.getModifiers();
            yes("static, not public: " + inside, Modifier.isStatic(how) && !Modifier.isPublic(how)
                && !Modifier.isProtected(how));
            ofClass(inside);
        }
    }

    private static void ofClass(Class<?> one) {
        int fields = 0;
        for (Field field : one.getDeclaredFields()) {
            int how = field.getModifiers();
            if (Modifier.isStatic(how)) {
                yes("final: " + field, Modifier.isFinal(how));
            } else {
                fields++;
            }
            yes("private: " + field, one != PeaSoup.class || Modifier.isPrivate(how));
        }
        yes("some twenty fields: " + one, fields <= 20);
        for (Method method : one.getDeclaredMethods()) {
            yes("seven parameters: " + method, method.getParameterCount() <= 7);
        }
    }

    private static void yes(String what, boolean so) {
        Due.is(what, so ? 1 : 0, 1);
    }
}
