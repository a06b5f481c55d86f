import java.lang.reflect.Method;
import java.util.Random;

/** Runs of calls by draws on PeaSoup and on the Model, which must answer alike. */
public final class ModelTest {
    private static final String[] NAMES = {
        "lay", "lay", "fog", "set", "set", "jar", "jar", "ofJar", "change", "change", "change", "become", "as",
        "person", "person", "walk", "at", "feed", "text", "law", "hours", "hours", "loose", "then", "sees", "seen",
        "first", "hide", "hide", "which", "thick", "clear", "lasts", "way", "way", "lamp", "mix", "odds", "odds",
        "seed", "voice", "trace", "sheet", "put", "put", "move", "fogs", "judge", "image", "restore", "tell", "check",
        "count", "told"};
    private static final int[] EDGES = {0, -1, 1, 2, 5, 6, 7, 9, 10, 15, 16, 20, 21, 39, 40, 41, 60, 61, 69, 70, 99,
        100, 999, 1000, Integer.MAX_VALUE, Integer.MIN_VALUE, 8, 32, 50, 51};
    private static final String SIGNS = "fwh0123456789+-*/%<=>&|!()x";

    private final Random random;
    private final PeaSoup soup = new PeaSoup();
    private final Model model = new Model();

    private ModelTest(long seed) {
        random = new Random(seed);
    }

    public static void main(String[] args) throws Exception {
        int runs = args.length > 0 ? Integer.parseInt(args[0]) : 400;
        for (int run = 0; run < runs; run++) {
            new ModelTest(run).go(run);
        }
        Due.end();
    }

    private void go(int run) throws Exception {
        boolean wild = run % 4 == 0;
        if (!wild) {
            settle(run);
        }
        for (int i = 0; i < 300; i++) {
            String name = NAMES[random.nextInt(NAMES.length)];
            if (name.equals("text")) {
                text(run);
            }
            if (name.equals("which") && random.nextBoolean()) {
                sheetThatIsSo(run);
            }
            if (name.equals("check")) {
                tellWhatWillBe(run);
            }
            ask(run, name, wild && random.nextInt(2) == 0);
        }
        for (int what = 0; what < 12; what++) {
            both(run, "count", new int[] {what}, 0L);
        }
        for (int k = 1; k <= 5; k++) {
            both(run, "told", new int[] {k}, 0L);
        }
    }

    private void settle(int run) throws Exception {
        int jars = random.nextInt(7);
        for (int i = 0; i < jars; i++) {
            both(run, "jar", new int[] {random.nextInt(70), random.nextInt(16), random.nextInt(1000)}, 0L);
        }
        int people = random.nextInt(7);
        for (int i = 0; i < people; i++) {
            both(run, "person", new int[] {random.nextInt(16)}, 0L);
        }
    }

    private void ask(int run, String name, boolean edges) throws Exception {
        Method method = method(name);
        Class<?>[] types = method.getParameterTypes();
        int words = types.length > 0 && types[0] == long.class ? 1 : 0;
        int[] a = new int[types.length - words];
        for (int i = 0; i < a.length; i++) {
            a[i] = edges ? EDGES[random.nextInt(EDGES.length)] : likely(name, i);
        }
        both(run, name, a, random.nextLong());
    }

    private int likely(String name, int i) {
        int off = random.nextInt(60) == 0 ? -1 : 0;
        switch (name + i) {
            case "lay0": case "fog0": case "jar1": case "person0": case "walk1": case "then1": case "way1": case "mix0":
                return random.nextInt(16) + off;
            case "lay1": return random.nextInt(random.nextBoolean() ? 60 : 1000);
            case "jar2": case "clear0": case "mix1": case "put2": case "change2":
                return random.nextInt(3) == 0 ? random.nextInt(2) : random.nextInt(random.nextBoolean() ? 100 : 1000);
            case "set0": case "which1": case "thick1": case "lamp0": case "odds2": case "mix2": case "then2":
            case "text0": case "law0":
                return random.nextInt(2) + off;
            case "set1": return random.nextInt(random.nextBoolean() ? 10 : 200);
            case "jar0": case "become1": return random.nextInt(70) + off;
            case "change1": case "sheet0": case "which0": case "put0": case "move0": case "move2": case "fogs0":
            case "judge0": case "voice1":
                return random.nextInt(4) + off;
            case "feed0": return random.nextInt(8) + 1 + off;
            case "law1": case "law2": case "law3": case "seed0": case "voice2":
                return random.nextInt(3) == 0 ? random.nextInt() : random.nextInt(1000) - 100;
            case "hours0": case "loose0": return random.nextInt(4) + 1 + off;
            case "then0": case "thick0": case "odds1": return random.nextInt(random.nextBoolean() ? 4 : 61) + off;
            case "hide1": return random.nextInt(random.nextBoolean() ? 4 : 21) + off;
            case "ofJar1": case "as1": return random.nextInt(7) + off;
            case "sheet1": return new int[] {8, 16, 16, 32, 0, 9}[random.nextInt(6)];
            case "sheet2": return random.nextBoolean() ? 16 : random.nextInt(44) - 2;
            case "put1": return random.nextInt(17) + off;
            case "move1": case "move3": return random.nextInt(12) + off;
            case "move4": return random.nextInt(8) + off;
            case "count0": return random.nextInt(12) + off;
            case "told0": return random.nextInt(5) + 1 + off;
            case "trace0": return random.nextInt(10) + off;
            case "tell0": return random.nextInt(100);
            default: return random.nextInt(6) + off;
        }
    }

    private void text(int run) throws Exception {
        StringBuilder text = new StringBuilder();
        if (random.nextInt(4) == 0) {
            int n = random.nextInt(12);
            for (int i = 0; i < n; i++) {
                text.append(SIGNS.charAt(random.nextInt(SIGNS.length())));
            }
        } else {
            grow(text, 0);
        }
        if (text.length() > 50 - model.now.tape.length()) {
            text.setLength(50 - model.now.tape.length());
        }
        if (random.nextInt(6) == 0 && text.length() > 0) {
            text.setCharAt(random.nextInt(text.length()), SIGNS.charAt(random.nextInt(SIGNS.length())));
        }
        for (int from = 0; from < text.length(); from += 8) {
            int n = Math.min(8, text.length() - from);
            long word = 0;
            for (int i = 0; i < n; i++) {
                word |= (long) text.charAt(from + i) << 8 * i;
            }
            both(run, "feed", new int[] {n}, word);
        }
    }

    private void grow(StringBuilder text, int depth) {
        int parts = 1 + random.nextInt(3);
        for (int i = 0; i < parts; i++) {
            if (i > 0) {
                text.append("+-*/%<=>&|+-*/".charAt(random.nextInt(14)));
            }
            int kind = random.nextInt(8);
            if (kind < 4) {
                text.append("fwhf".charAt(kind));
            } else if (kind < 6) {
                text.append(random.nextInt(random.nextBoolean() ? 10 : 20000));
            } else if (kind == 6) {
                text.append('!');
                text.append("fwh".charAt(random.nextInt(3)));
            } else if (depth < 6) {
                text.append('(');
                grow(text, depth + 1);
                text.append(')');
            } else {
                text.append('f');
            }
        }
    }

    private void sheetThatIsSo(int run) throws Exception {
        int sheet = random.nextInt(4);
        Model.Place will = model.now.copy().just(random.nextInt(64)).pass(1);
        both(run, "sheet", new int[] {sheet, random.nextBoolean() ? 16 : 32, 16}, 0L);
        for (int cell = 0; cell < 16; cell++) {
            if (will.at(cell) != 0) {
                both(run, "put", new int[] {sheet, cell, will.at(cell)}, 0L);
            }
        }
        both(run, "which", new int[] {sheet, 0}, 0L);
        both(run, "which", new int[] {sheet, 1}, 0L);
    }

    private void tellWhatWillBe(int run) throws Exception {
        both(run, "check", new int[0], 0L);
        int n = random.nextInt(21);
        Model.Place will = model.now.copy();
        for (int i = 0; i < n; i++) {
            will.pass(1);
            both(run, "tell", new int[] {random.nextInt(40) == 0 ? 5 : will.sum()}, 0L);
        }
    }

    private void both(int run, String name, int[] a, long word) throws Exception {
        Method method = method(name);
        boolean words = name.equals("feed");
        Object[] given = new Object[a.length + (words ? 1 : 0)];
        for (int i = 0; i < given.length; i++) {
            given[i] = words && i == 0 ? (Object) word : (Object) a[words ? i - 1 : i];
        }
        int got = (Integer) method.invoke(soup, given);
        Due.is("run " + run + ": " + name + java.util.Arrays.toString(given), got, model.call(name, a, word));
    }

    private static Method method(String name) {
        for (Method method : PeaSoup.class.getMethods()) {
            if (method.getName().equals(name) && method.getDeclaringClass() == PeaSoup.class) {
                return method;
            }
        }
        throw new IllegalStateException(name);
    }
}
