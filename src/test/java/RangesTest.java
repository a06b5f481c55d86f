import java.util.function.Consumer;
import java.util.function.ToIntBiFunction;

/**
 * Each argument that has bounds: the last values that are allowed are not
 * BEYOND, the first that aren't (and the farthest ints) are, on both sides, and
 * change nothing but what told() tells.
 */
public final class RangesTest {
    private static final int LEAST = Integer.MIN_VALUE;
    private static final int MOST = Integer.MAX_VALUE;

    private static Consumer<PeaSoup> make = Cities::some;

    public static void main(String[] args) {
        city();
        jars();
        people();
        textsAndHours();
        whatWouldBe();
        voicesAndSheets();
        counts();
        none();
        full();
        Due.end();
    }

    /** Argument i of an act is within least and most, the others being as in a. */
    private static void range(String name, ToIntBiFunction<PeaSoup, int[]> act, int[] a, int i, int least, int most) {
        for (int v : new int[] {least, most}) {
            allowed(name, act, with(a, i, v));
        }
        int[] outside = {least - 1, most + 1, LEAST, MOST};
        for (int v : outside) {
            if (v < least || v > most) {
                refused(name, act, with(a, i, v), Due.BEYOND);
            }
        }
    }

    private static void allowed(String name, ToIntBiFunction<PeaSoup, int[]> act, int[] a) {
        PeaSoup soup = new PeaSoup();
        make.accept(soup);
        int before = soup.told(1);
        act.applyAsInt(soup, a);
        Due.is(call(name, a) + " is not BEYOND", soup.told(1), before);
    }

    private static void refused(String name, ToIntBiFunction<PeaSoup, int[]> act, int[] a, int error) {
        Twins.refuse(call(name, a), make, soup -> act.applyAsInt(soup, a), error);
    }

    private static int[] with(int[] a, int i, int v) {
        int[] changed = a.clone();
        changed[i] = v;
        return changed;
    }

    private static String call(String name, int[] a) {
        StringBuilder call = new StringBuilder(name).append('(');
        for (int i = 0; i < a.length; i++) {
            call.append(i == 0 ? "" : ", ").append(a[i]);
        }
        return call.append(')').toString();
    }

    private static int[] of(int... a) {
        return a;
    }

    private static void city() {
        ToIntBiFunction<PeaSoup, int[]> lay = (x, a) -> x.lay(a[0], a[1]);
        range("lay", lay, of(3, 8), 0, 0, 15);
        range("lay", lay, of(3, 8), 1, 0, 999);
        range("fog", (x, a) -> x.fog(a[0]), of(0), 0, 0, 15);
        ToIntBiFunction<PeaSoup, int[]> set = (x, a) -> x.set(a[0], a[1]);
        range("set", set, of(0, 4), 0, 0, 1);
        range("set", set, of(0, 4), 1, 0, 9);
        range("set", set, of(1, 4), 1, 1, 999);
    }

    private static void jars() {
        ToIntBiFunction<PeaSoup, int[]> jar = (x, a) -> x.jar(a[0], a[1], a[2]);
        range("jar", jar, of(33, 3, 33), 0, 0, 69);
        range("jar", jar, of(33, 3, 33), 1, 0, 15);
        range("jar", jar, of(33, 3, 33), 2, 0, 999);
        ToIntBiFunction<PeaSoup, int[]> ofJar = (x, a) -> x.ofJar(a[0], a[1]);
        range("ofJar", ofJar, of(1, 3), 0, 0, 1);
        range("ofJar", ofJar, of(1, 3), 1, 0, 6);
        ToIntBiFunction<PeaSoup, int[]> change = (x, a) -> x.change(a[0], a[1], a[2]);
        range("change", change, of(1, 0, 1), 0, 0, 1);
        range("change", change, of(1, 0, 1), 1, 0, 3);
        range("change", change, of(1, 0, 1), 2, 0, 15);
        range("change", change, of(1, 1, 1), 2, 0, 999);
        range("change", change, of(1, 2, 1), 2, 0, 99);
        range("change", change, of(1, 3, 1), 2, 0, 1);
        ToIntBiFunction<PeaSoup, int[]> become = (x, a) -> x.become(a[0], a[1]);
        range("become", become, of(1, 5), 0, 0, 1);
        range("become", become, of(1, 5), 1, 0, 69);
        ToIntBiFunction<PeaSoup, int[]> as = (x, a) -> x.as(a[0], a[1]);
        range("as", as, of(0, 0), 0, 0, 1);
        range("as", as, of(0, 0), 1, 0, 6);
    }

    private static void people() {
        range("person", (x, a) -> x.person(a[0]), of(0), 0, 0, 15);
        ToIntBiFunction<PeaSoup, int[]> walk = (x, a) -> x.walk(a[0], a[1]);
        range("walk", walk, of(1, 2), 0, 0, 1);
        range("walk", walk, of(1, 2), 1, 0, 15);
        range("at", (x, a) -> x.at(a[0]), of(0), 0, 0, 1);
    }

    private static void textsAndHours() {
        range("feed", (x, a) -> x.feed(0x6666666666666666L, a[0]), of(1), 0, 1, 8);
        range("text", (x, a) -> x.text(a[0]), of(0), 0, 0, 1);
        ToIntBiFunction<PeaSoup, int[]> law = (x, a) -> x.law(a[0], a[1], a[2], a[3]);
        range("law", law, of(0, 1, 2, 3), 0, 0, 1);
        for (int i = 1; i <= 3; i++) {
            range("law", law, of(0, 1, 2, 3), i, LEAST, MOST);
        }
        range("hours", (x, a) -> x.hours(a[0]), of(1), 0, 1, 60);
        range("loose", (x, a) -> x.loose(a[0]), of(1), 0, 1, 40);
    }

    private static void whatWouldBe() {
        ToIntBiFunction<PeaSoup, int[]> then = (x, a) -> x.then(a[0], a[1], a[2]);
        for (int what = 0; what <= 1; what++) {
            range("then", then, of(2, 3, what), 0, 0, 60);
            range("then", then, of(2, 3, what), 1, 0, 15);
            range("then", then, of(2, 3, what), 2, 0, 1);
        }
        ToIntBiFunction<PeaSoup, int[]> sees = (x, a) -> x.sees(a[0], a[1]);
        for (int i = 0; i <= 1; i++) {
            allowed("sees", sees, of(i, 1 - i));
            refused("sees", sees, of(i, i), Due.BEYOND);
            for (int v : of(-1, 2, LEAST, MOST)) {
                refused("sees", sees, of(i, v), Due.BEYOND);
                refused("sees", sees, of(v, i), Due.BEYOND);
                refused("sees", sees, of(v, v), Due.BEYOND);
            }
        }
        range("first", (x, a) -> x.first(a[0]), of(0), 0, 0, 1);
        ToIntBiFunction<PeaSoup, int[]> hide = (x, a) -> x.hide(a[0], a[1]);
        range("hide", hide, of(0, 2), 0, 0, 1);
        range("hide", hide, of(0, 2), 1, 0, 20);
        ToIntBiFunction<PeaSoup, int[]> which = (x, a) -> x.which(a[0], a[1]);
        range("which", which, of(0, 0), 0, 0, 3);
        range("which", which, of(0, 0), 1, 0, 1);
        ToIntBiFunction<PeaSoup, int[]> thick = (x, a) -> x.thick(a[0], a[1]);
        range("thick", thick, of(2, 0), 0, 0, 60);
        range("thick", thick, of(2, 0), 1, 0, 1);
        range("clear", (x, a) -> x.clear(a[0]), of(0), 0, 0, 999);
        range("lasts", (x, a) -> x.lasts(a[0]), of(0), 0, 0, 1);
        ToIntBiFunction<PeaSoup, int[]> way = (x, a) -> x.way(a[0], a[1]);
        range("way", way, of(0, 4), 0, 0, 1);
        range("way", way, of(0, 4), 1, 0, 15);
        range("lamp", (x, a) -> x.lamp(a[0]), of(0), 0, 0, 1);
        ToIntBiFunction<PeaSoup, int[]> mix = (x, a) -> x.mix(a[0], a[1], a[2]);
        range("mix", mix, of(3, 50, 0), 0, 0, 15);
        range("mix", mix, of(3, 50, 0), 1, 0, 999);
        range("mix", mix, of(3, 50, 0), 2, 0, 1);
        ToIntBiFunction<PeaSoup, int[]> odds = (x, a) -> x.odds(a[0], a[1], a[2]);
        range("odds", odds, of(1, 3, 0), 0, 0, 1);
        range("odds", odds, of(1, 3, 0), 1, 0, 60);
        range("odds", odds, of(1, 3, 0), 2, 0, 1);
    }

    private static void voicesAndSheets() {
        range("seed", (x, a) -> x.seed(a[0]), of(0), 0, LEAST, MOST);
        ToIntBiFunction<PeaSoup, int[]> voice = (x, a) -> x.voice(a[0], a[1], a[2]);
        range("voice", voice, of(1, 2, 3), 0, 0, 1);
        range("voice", voice, of(1, 2, 3), 1, 0, 3);
        range("voice", voice, of(1, 2, 3), 2, LEAST, MOST);
        ToIntBiFunction<PeaSoup, int[]> sheet = (x, a) -> x.sheet(a[0], a[1], a[2]);
        range("sheet", sheet, of(1, 8, 4), 0, 0, 3);
        for (int bits : of(8, 16, 32)) {
            allowed("sheet", sheet, of(1, bits, 0));
            allowed("sheet", sheet, of(1, bits, 40));
            refused("sheet", sheet, of(1, bits, 41), Due.BEYOND);
            refused("sheet", sheet, of(1, bits, MOST), Due.BEYOND);
            refused("sheet", sheet, of(1, bits, -1), Due.STATE);
            refused("sheet", sheet, of(1, bits, LEAST), Due.STATE);
            refused("sheet", sheet, of(1, bits - 1, 4), Due.BEYOND);
            refused("sheet", sheet, of(1, bits + 1, 4), Due.BEYOND);
            refused("sheet", sheet, of(1, -bits, 4), Due.BEYOND);
        }
        for (int bits : of(-1, 1, 24, 64, LEAST, MOST)) {
            refused("sheet", sheet, of(1, bits, 4), Due.BEYOND);
        }
        ToIntBiFunction<PeaSoup, int[]> put = (x, a) -> x.put(a[0], a[1], a[2]);
        range("put", put, of(0, 0, 9), 0, 0, 3);
        range("put", put, of(0, 0, 9), 1, 0, 15);
        range("put", put, of(1, 0, 9), 1, 0, 39);
        range("put", put, of(2, 0, 9), 1, 0, 4);
        range("put", put, of(2, 0, 9), 2, LEAST, MOST);
        moves();
        range("fogs", (x, a) -> x.fogs(a[0]), of(0), 0, 0, 3);
        range("judge", (x, a) -> x.judge(a[0]), of(0), 0, 0, 3);
        range("tell", (x, a) -> x.tell(a[0]), of(0), 0, LEAST, MOST);
    }

    private static void moves() {
        ToIntBiFunction<PeaSoup, int[]> move = (x, a) -> x.move(a[0], a[1], a[2], a[3], a[4]);
        range("move", move, of(0, 0, 0, 0, 1), 0, 0, 3);
        range("move", move, of(0, 0, 0, 0, 1), 2, 0, 3);
        range("move", move, of(1, 3, 1, 5, 7), 1, 0, 33);
        range("move", move, of(1, 3, 1, 5, 7), 3, 0, 33);
        range("move", move, of(1, 3, 1, 5, 7), 4, 0, 35);
        range("move", move, of(1, 5, 1, 3, 7), 4, 0, 35);
        range("move", move, of(2, 0, 2, 0, 0), 1, 0, 5);
        range("move", move, of(2, 0, 2, 0, 0), 3, 0, 5);
        range("move", move, of(2, 5, 2, 5, 0), 4, 0, 0);
    }

    private static void counts() {
        range("count", (x, a) -> x.count(a[0]), of(0), 0, 0, 11);
        range("told", (x, a) -> x.told(a[0]), of(0), 0, 1, 5);
        ToIntBiFunction<PeaSoup, int[]> trace = (x, a) -> x.trace(a[0]);
        PeaSoup soup = new PeaSoup();
        make.accept(soup);
        int bodies = soup.count(10);
        Due.is("trace(0) is there", soup.trace(0), 13);
        Due.is("the last of THE TRACE is there", soup.trace(bodies - 1), 12);
        for (int i : of(-1, bodies, 40, LEAST, MOST)) {
            refused("trace", trace, of(i), Due.NONE);
        }
    }

    /** Without JARS and PEOPLE there is no number of one. */
    private static void none() {
        make = Cities::fresh;
        for (int i : of(-1, 0, 1)) {
            refused("ofJar", (x, a) -> x.ofJar(a[0], 0), of(i), Due.BEYOND);
            refused("change", (x, a) -> x.change(a[0], 0, 0), of(i), Due.BEYOND);
            refused("become", (x, a) -> x.become(a[0], 0), of(i), Due.BEYOND);
            refused("as", (x, a) -> x.as(a[0], 0), of(i), Due.BEYOND);
            refused("walk", (x, a) -> x.walk(a[0], 0), of(i), Due.BEYOND);
            refused("at", (x, a) -> x.at(a[0]), of(i), Due.BEYOND);
            refused("sees", (x, a) -> x.sees(a[0], 0), of(i), Due.BEYOND);
            refused("first", (x, a) -> x.first(a[0]), of(i), Due.BEYOND);
            refused("hide", (x, a) -> x.hide(a[0], 0), of(i), Due.BEYOND);
            refused("lasts", (x, a) -> x.lasts(a[0]), of(i), Due.BEYOND);
            refused("way", (x, a) -> x.way(a[0], 0), of(i), Due.BEYOND);
            refused("odds", (x, a) -> x.odds(a[0], 0, 0), of(i), Due.BEYOND);
            refused("voice", (x, a) -> x.voice(a[0], 0, 0), of(i), Due.BEYOND);
            refused("trace", (x, a) -> x.trace(a[0]), of(i), Due.NONE);
        }
        refused("restore", (x, a) -> x.restore(), of(), Due.NONE);
    }

    /** With six of each the sixth is there, and no seventh. */
    private static void full() {
        make = Cities::full;
        range("ofJar", (x, a) -> x.ofJar(a[0], 0), of(0), 0, 0, 5);
        range("change", (x, a) -> x.change(a[0], 0, 0), of(0), 0, 0, 5);
        range("become", (x, a) -> x.become(a[0], 0), of(0), 0, 0, 5);
        range("as", (x, a) -> x.as(a[0], 0), of(0), 0, 0, 5);
        range("walk", (x, a) -> x.walk(a[0], 0), of(0), 0, 0, 5);
        range("at", (x, a) -> x.at(a[0]), of(0), 0, 0, 5);
        range("sees", (x, a) -> x.sees(a[0], 3), of(0), 0, 0, 5);
        range("sees", (x, a) -> x.sees(3, a[0]), of(0), 0, 0, 5);
        range("first", (x, a) -> x.first(a[0]), of(0), 0, 0, 5);
        range("hide", (x, a) -> x.hide(a[0], 0), of(0), 0, 0, 5);
        range("lasts", (x, a) -> x.lasts(a[0]), of(0), 0, 0, 5);
        range("way", (x, a) -> x.way(a[0], 0), of(0), 0, 0, 5);
        range("odds", (x, a) -> x.odds(a[0], 0, 0), of(0), 0, 0, 5);
        range("voice", (x, a) -> x.voice(a[0], 0, 0), of(0), 0, 0, 5);
        for (int v : of(0, 15)) {
            refused("jar", (x, a) -> x.jar(0, a[0], 0), of(v), Due.FULL);
            refused("person", (x, a) -> x.person(a[0]), of(v), Due.FULL);
        }
        for (int n : of(1, 8)) {
            refused("feed", (x, a) -> x.feed(0L, a[0]), of(n), Due.FULL);
        }
        for (int v : of(0, LEAST, MOST)) {
            refused("tell", (x, a) -> x.tell(a[0]), of(v), Due.FULL);
        }
    }
}
