import java.util.function.Consumer;
import java.util.function.ToIntFunction;

/** Where two ERRORS of an act are due at once, the one that the document tells first is answered. */
public final class OrderTest {
    private static final int LAST_HOUR = 9999;

    public static void main(String[] args) {
        fullOnes();
        kinds();
        texts();
        lateHours();
        thoughts();
        sheet();
        put();
        move();
        told();
        Due.end();
    }

    private static void refuse(String call, Consumer<PeaSoup> make, ToIntFunction<PeaSoup> act, int error) {
        Twins.refuse(call, make, act, error);
    }

    /** "BEYOND. FULL." of jar, person, feed. */
    private static void fullOnes() {
        refuse("jar: km ahead of FULL", Cities::full, x -> x.jar(70, 0, 0), Due.BEYOND);
        refuse("jar: CELL ahead of FULL", Cities::full, x -> x.jar(0, 16, 0), Due.BEYOND);
        refuse("jar: FILL ahead of FULL", Cities::full, x -> x.jar(0, 0, 1000), Due.BEYOND);
        refuse("jar: FULL", Cities::full, x -> x.jar(69, 15, 999), Due.FULL);
        refuse("person: CELL ahead of FULL", Cities::full, x -> x.person(-1), Due.BEYOND);
        refuse("person: FULL", Cities::full, x -> x.person(15), Due.FULL);
        refuse("feed: n ahead of FULL, below", Cities::full, x -> x.feed(0L, 0), Due.BEYOND);
        refuse("feed: n ahead of FULL, above", Cities::full, x -> x.feed(0L, 9), Due.BEYOND);
        refuse("feed: FULL", Cities::full, x -> x.feed(0L, 8), Due.FULL);
    }

    /** "BEYOND. KIND: it isn't of that KIND, nor of one under it." */
    private static void kinds() {
        refuse("as: no KIND 7, not KIND", Cities::some, x -> x.as(1, 7), Due.BEYOND);
        refuse("as: no KIND -1, not KIND", Cities::some, x -> x.as(1, -1), Due.BEYOND);
        refuse("as: no JAR 2, not KIND", Cities::some, x -> x.as(2, 6), Due.BEYOND);
        refuse("as: a QUART is no HEADACHE, which is under it", Cities::some, x -> x.as(1, 4), Due.KIND);
        refuse("as: a QUART is no VINTAGE", Cities::some, x -> x.as(1, 2), Due.KIND);
        refuse("as: a LEAK is no QUART", Cities::some, x -> x.as(0, 1), Due.KIND);
    }

    /** "BEYOND (THE TAPE stays). -10 less the FAULT (no ERROR; the one ahead stays)." */
    private static void texts() {
        Consumer<PeaSoup> faulty = x -> {
            Cities.some(x);
            Due.feed(x, "+");
        };
        refuse("text: BEYOND ahead of a FAULT", faulty, x -> x.text(2), Due.BEYOND);
        refuse("text: BEYOND ahead of a FAULT", faulty, x -> x.text(-1), Due.BEYOND);
        refuse("text: BEYOND though THE TAPE is empty", Cities::fresh, x -> x.text(2), Due.BEYOND);
    }

    /** "BEYOND. STATE: HOUR would be above 9999." of hours, loose. */
    private static void lateHours() {
        Consumer<PeaSoup> last = x -> Cities.late(x, LAST_HOUR);
        refuse("hours(0), not STATE", last, x -> x.hours(0), Due.BEYOND);
        refuse("hours(61) ahead of STATE", last, x -> x.hours(61), Due.BEYOND);
        refuse("hours(most)", last, x -> x.hours(Integer.MAX_VALUE), Due.BEYOND);
        refuse("hours(1)", last, x -> x.hours(1), Due.STATE);
        refuse("hours(60)", last, x -> x.hours(60), Due.STATE);
        refuse("loose(0), not STATE", last, x -> x.loose(0), Due.BEYOND);
        refuse("loose(41) ahead of STATE", last, x -> x.loose(41), Due.BEYOND);
        refuse("loose(most)", last, x -> x.loose(Integer.MAX_VALUE), Due.BEYOND);
        refuse("loose(1)", last, x -> x.loose(1), Due.STATE);
        refuse("loose(40)", last, x -> x.loose(40), Due.STATE);
    }

    /** "BEYOND. NONE .." of first, hide, which, clear, lasts, way. */
    private static void thoughts() {
        Consumer<PeaSoup> alone = x -> {
            x.person(0);
            x.jar(0, 0, 1);
            x.lay(9, 999);
        };
        refuse("first: one alone", alone, x -> x.first(0), Due.NONE);
        refuse("first: no such one", alone, x -> x.first(1), Due.BEYOND);
        refuse("clear: not by 60", alone, x -> x.clear(0), Due.NONE);
        refuse("clear: below 0", alone, x -> x.clear(-1), Due.BEYOND);
        refuse("lasts: not by 60", alone, x -> x.lasts(0), Due.NONE);
        refuse("lasts: no such JAR", alone, x -> x.lasts(1), Due.BEYOND);
        Consumer<PeaSoup> two = x -> {
            x.person(0);
            x.person(1);
        };
        refuse("hide: not by all", two, x -> x.hide(0, 20), Due.NONE);
        refuse("hide: for 21 HOURS, ahead of NONE", two, x -> x.hide(0, 21), Due.BEYOND);
        refuse("hide: no such one", two, x -> x.hide(2, 20), Due.BEYOND);
        refuse("way: to where it is seen", two, x -> x.way(0, 2), Due.NONE);
        refuse("way: to no CELL", two, x -> x.way(0, 16), Due.BEYOND);
        refuse("which: what, ahead of a missing SHEET", Cities::some, x -> x.which(3, 2), Due.BEYOND);
        refuse("which: what, ahead of 40 numbers", Cities::some, x -> x.which(1, -1), Due.BEYOND);
        refuse("which: no such SHEET", Cities::some, x -> x.which(4, 0), Due.BEYOND);
        for (int what = 0; what <= 1; what++) {
            int asked = what;
            refuse("which: missing", Cities::some, x -> x.which(3, asked), Due.NONE);
            refuse("which: 40 numbers", Cities::some, x -> x.which(1, asked), Due.NONE);
            refuse("which: 5 numbers", Cities::some, x -> x.which(2, asked), Due.NONE);
        }
        refuse("which: there is none", Cities::some, x -> x.which(0, 1), Due.NONE);
        Twins.onlyAnswer("which: how many there are, 0", Cities::some, x -> x.which(0, 0), 0);
    }

    /** "BEYOND. STATE: n is below 0 (ahead of BEYOND of n)." */
    private static void sheet() {
        refuse("no such SHEET, ahead of STATE", Cities::some, x -> x.sheet(4, 8, -1), Due.BEYOND);
        refuse("no such SHEET, ahead of STATE", Cities::some, x -> x.sheet(-1, 8, -1), Due.BEYOND);
        refuse("no such bits, ahead of STATE", Cities::some, x -> x.sheet(0, 24, -1), Due.BEYOND);
        refuse("n below 0", Cities::some, x -> x.sheet(0, 8, -1), Due.STATE);
        refuse("n far below 0", Cities::some, x -> x.sheet(0, 8, Integer.MIN_VALUE), Due.STATE);
        refuse("n above 40", Cities::some, x -> x.sheet(0, 8, 41), Due.BEYOND);
        refuse("no such SHEET to be missing", Cities::some, x -> x.sheet(4, 0, 0), Due.BEYOND);
    }

    /** "BEYOND: no such SHEET. NONE: it is missing. BEYOND: no such number." */
    private static void put() {
        refuse("no such SHEET", Cities::some, x -> x.put(4, 99, 0), Due.BEYOND);
        refuse("missing, ahead of no such number", Cities::some, x -> x.put(3, 0, 0), Due.NONE);
        refuse("missing, ahead of no such number", Cities::some, x -> x.put(3, -1, 0), Due.NONE);
        refuse("no such number", Cities::some, x -> x.put(2, 5, 0), Due.BEYOND);
        refuse("fogs: missing", Cities::some, x -> x.fogs(3), Due.NONE);
        refuse("fogs: no such SHEET", Cities::some, x -> x.fogs(4), Due.BEYOND);
        refuse("judge: missing", Cities::some, x -> x.judge(3), Due.NONE);
        refuse("judge: no such SHEET", Cities::some, x -> x.judge(4), Due.BEYOND);
    }

    /** "BEYOND: no such SHEET. NONE: one is missing. KIND: they are of unlike bits. BEYOND: n, i, or j .." */
    private static void move() {
        refuse("no such SHEET, the other is missing", Cities::some, x -> x.move(4, 0, 3, 0, 0), Due.BEYOND);
        refuse("no such other, the one is missing", Cities::some, x -> x.move(3, 0, -1, 0, 0), Due.BEYOND);
        refuse("the one is missing, n below 0", Cities::some, x -> x.move(3, 0, 0, 0, -1), Due.NONE);
        refuse("the other is missing, i below 0", Cities::some, x -> x.move(0, -1, 3, 0, 1), Due.NONE);
        refuse("both are missing", Cities::some, x -> x.move(3, 0, 3, 0, 0), Due.NONE);
        refuse("unlike bits, n below 0", Cities::some, x -> x.move(0, 0, 1, 0, -1), Due.KIND);
        refuse("unlike bits, i below 0", Cities::some, x -> x.move(1, -1, 2, 0, 1), Due.KIND);
        refuse("unlike bits, j below 0", Cities::some, x -> x.move(2, 0, 0, -1, 1), Due.KIND);
        refuse("unlike bits, too many", Cities::some, x -> x.move(0, 0, 2, 0, 99), Due.KIND);
        refuse("unlike bits, none to move", Cities::some, x -> x.move(0, 0, 2, 0, 0), Due.KIND);
        refuse("n below 0", Cities::some, x -> x.move(0, 0, 0, 0, -1), Due.BEYOND);
        refuse("i below 0", Cities::some, x -> x.move(0, -1, 0, 0, 0), Due.BEYOND);
        refuse("j below 0", Cities::some, x -> x.move(0, 0, 0, -1, 0), Due.BEYOND);
        refuse("i below 0, though i and n end within", Cities::some, x -> x.move(0, -1, 0, 0, 2), Due.BEYOND);
        refuse("j below 0, though j and n end within", Cities::some, x -> x.move(0, 0, 0, -1, 2), Due.BEYOND);
        refuse("they don't stand there", Cities::some, x -> x.move(0, 9, 0, 0, 8), Due.BEYOND);
        refuse("they don't stand there", Cities::some, x -> x.move(0, 0, 0, 9, 8), Due.BEYOND);
        refuse("none stand behind the end", Cities::some, x -> x.move(0, 17, 0, 0, 0), Due.BEYOND);
        refuse("none stand behind the end", Cities::some, x -> x.move(0, 0, 0, 17, 0), Due.BEYOND);
        refuse("i and n wrap", Cities::some, x -> x.move(0, 2147483647, 0, 0, 2147483647), Due.BEYOND);
        refuse("j and n wrap", Cities::some, x -> x.move(0, 0, 0, 2147483647, 1), Due.BEYOND);
    }

    /** "BEYOND: another k (counted, too)." */
    private static void told() {
        refuse("told(0)", Cities::some, x -> x.told(0), Due.BEYOND);
        refuse("told(6)", Cities::some, x -> x.told(6), Due.BEYOND);
        PeaSoup soup = new PeaSoup();
        soup.told(0);
        soup.told(6);
        soup.told(-1000000001);
        Due.is("counted, too", soup.told(1), 3);
    }
}
