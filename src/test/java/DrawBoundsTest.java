/** HOURS by draws and VOICES, promises 17 and 31 to 33: each sentence that names a bound has a test here. */
public final class DrawBoundsTest {
    private static final int LEAST = Integer.MIN_VALUE;
    private static final int MOST = Integer.MAX_VALUE;

    public static void main(String[] args) {
        zIsAnyNumber();
        zIsAnIntThatWraps();
        drawsAreNeverBelowZero();
        onlyTheWindWithoutPeople();
        theOneAndItsCell();
        eachHourByItself();
        oneToForty();
        eachBody();
        voicesGoRound();
        theBodyOfItsKindOrAbove();
        whatStandsLeftIsFirst();
        theLatestTrace();
        anyNumberIsNoError();
        Due.end();
    }

    private static int drawn(int z) {
        return z * 1103515245 + 12345;
    }

    /** "z becomes v: what it was (any number)." "z is told (1 at first)". */
    private static void zIsAnyNumber() {
        PeaSoup soup = new PeaSoup();
        int[] rows = {0, -1, MOST, LEAST, -1000000000, -1000000001, -1000000005, 1};
        int was = 1;
        for (int z : rows) {
            Due.is("z was", soup.seed(z), was);
            Due.is("z is", soup.count(11), z);
            was = z;
        }
        for (int k = 1; k <= 5; k++) {
            Due.is("no ERROR", soup.told(k), 0);
        }
    }

    /** "each makes it z * 1103515245 + 12345 (an int)". */
    private static void zIsAnIntThatWraps() {
        int[][] rows = {{0, 12345}, {1, 1103527590}, {-1, -1103502900}, {2, -2087924461}, {MOST, 1043980748},
            {LEAST, LEAST + 12345}};
        for (int[] row : rows) {
            PeaSoup soup = new PeaSoup();
            soup.seed(row[0]);
            soup.loose(1);
            Due.is("z behind a draw from " + row[0], soup.count(11), row[1]);
        }
        PeaSoup soup = new PeaSoup();
        soup.loose(1);
        Due.is("z from 1", soup.count(11), 1103527590);
        soup.loose(1);
        Due.is("and from there", soup.count(11), (int) (1103527590L * 1103515245L + 12345L));
    }

    /** "gives z >>> 8": not below 0, though z is. */
    private static void drawsAreNeverBelowZero() {
        int[] seeds = {-1, LEAST, 2, 5, 77, -12345};
        for (int seed : seeds) {
            PeaSoup soup = new PeaSoup();
            soup.seed(seed);
            soup.loose(1);
            long z = drawn(seed) & 0xffffffffL;
            Due.is("WIND from " + seed, soup.count(3), z / 256 % 10);
        }
        PeaSoup below = new PeaSoup();
        below.seed(-1);
        below.loose(1);
        Due.is("z is below 0", below.count(11), -1103502900);
        Due.is("WIND is (4294967296 - 1103502900) / 256 by 10", below.count(3), 7);
    }

    /** "a draw: WIND is its rest by 10; if there are PEOPLE, another draw". */
    private static void onlyTheWindWithoutPeople() {
        PeaSoup soup = new PeaSoup();
        int z = 1;
        for (int i = 0; i < 40; i++) {
            z = drawn(z);
        }
        soup.loose(40);
        Due.is("40 draws", soup.count(11), z);
        Due.is("WIND of the last", soup.count(3), (z >>> 8) % 10);
        Due.is("HOUR", soup.count(2), 40);
        PeaSoup one = new PeaSoup();
        one.person(0);
        one.loose(20);
        Due.is("20 HOURS with one of PEOPLE: 40 draws", one.count(11), z);
        Due.is("where it is", one.at(0), (z >>> 8) / 8 % 16);
    }

    /** "the one that is its rest by how many there are is in the CELL that is the rest by 16 of an eighth of it". */
    private static void theOneAndItsCell() {
        for (int people = 1; people <= 6; people++) {
            for (int seed = -5; seed <= 5; seed++) {
                PeaSoup soup = new PeaSoup();
                for (int i = 0; i < people; i++) {
                    soup.person(i);
                }
                soup.seed(seed);
                soup.loose(1);
                int given = drawn(drawn(seed)) >>> 8;
                for (int i = 0; i < people; i++) {
                    int due = given % people == i ? (given >> 3) & 15 : i;
                    Due.is("seed " + seed + ", " + i + " of " + people, soup.at(i), due);
                }
            }
        }
    }

    /** "Each: a draw ..; then an HOUR": by the WIND of that HOUR. */
    private static void eachHourByItself() {
        PeaSoup soup = new PeaSoup();
        PeaSoup steps = new PeaSoup();
        soup.lay(5, 999);
        soup.seed(9);
        steps.lay(5, 999);
        int z = 9;
        for (int i = 0; i < 5; i++) {
            z = drawn(z);
            steps.set(0, (z >>> 8) % 10);
            steps.hours(1);
        }
        Due.is("FOG of all CELLS", soup.loose(5), steps.count(5));
        for (int cell = 0; cell < 16; cell++) {
            Due.is("FOG of " + cell, soup.fog(cell), steps.fog(cell));
        }
    }

    /** loose: "n (1 to 40)". */
    private static void oneToForty() {
        PeaSoup soup = new PeaSoup();
        Due.is("loose(0)", soup.loose(0), Due.BEYOND);
        Due.is("loose(41)", soup.loose(41), Due.BEYOND);
        Due.is("loose(-1)", soup.loose(-1), Due.BEYOND);
        Due.is("z stays", soup.count(11), 1);
        Due.is("WIND stays", soup.count(3), 0);
        Due.is("loose(40)", soup.loose(40), 0);
        Due.is("loose(1)", soup.loose(1), 0);
        Due.is("HOUR", soup.count(2), 41);
    }

    private static void voice(int km, int act, int x, int due) {
        PeaSoup soup = new PeaSoup();
        for (int i = 0; i < 6; i++) {
            soup.jar(0, 0, 0);
        }
        soup.become(5, km);
        Due.is("voice of 5, km " + km + ", act " + act + ", " + x, soup.voice(5, act, x), due);
    }

    /** "BODIES: ..": one of each, of JAR 5, with x 10. */
    private static void eachBody() {
        voice(2, 0, 10, 15);
        voice(2, 1, 10, 30);
        voice(2, 2, 10, 8);
        voice(0, 3, 10, 30 ^ 10);
        voice(12, 0, 10, 45);
        voice(12, 1, 10, 90);
        voice(22, 1, 10, 30 - -1);
        voice(34, 2, 10, -6);
        voice(34, 3, 10, 30 ^ -6);
        voice(40, 3, 10, (90 ^ 10) - 21);
        voice(52, 1, 10, 32 - -1);
        voice(63, 2, 10, -7 ^ 5);
        voice(63, 3, 10, 30 - (30 ^ -4));
    }

    /** "with a number x (ints that go round)". */
    private static void voicesGoRound() {
        voice(0, 0, MOST, LEAST + 4);
        voice(0, 0, MOST - 5, MOST);
        voice(0, 0, MOST - 4, LEAST);
        voice(9, 2, LEAST, MOST - 8);
        voice(9, 2, LEAST + 9, LEAST);
        voice(0, 1, 1073741818, 2147483646);
        voice(0, 1, 1073741819, LEAST);
        voice(0, 1, LEAST, 10);
        voice(10, 0, 715827877, 2147483646);
        voice(10, 0, 715827878, LEAST + 1);
        voice(39, 2, LEAST + 9, LEAST);
        voice(30, 2, LEAST, LEAST);
        voice(50, 1, MOST, 2 * (LEAST + 5) - 1);
        voice(50, 1, MOST, 9);
    }

    /** "lets(..) is the BODY of its KIND, or of the next KIND above that has one". */
    private static void theBodyOfItsKindOrAbove() {
        int[][] bodies = { // of each KIND: lets, drifts, thins, tells
            {10, 11, 12, 13}, {20, 11, 12, 13}, {10, 30, 12, 13}, {10, 11, 40, 13}, {20, 11, 12, 50}, {10, 60, 12, 13},
            {10, 11, 70, 71}};
        for (int kind = 0; kind < 7; kind++) {
            for (int act = 0; act < 4; act++) {
                PeaSoup soup = new PeaSoup();
                soup.jar(10 * kind, 0, 0);
                soup.voice(0, act, 1);
                Due.is("the first BODY of KIND " + kind + ", act " + act, soup.trace(0), bodies[kind][act]);
            }
        }
    }

    private static void trace(int km, int act, int... due) {
        PeaSoup soup = new PeaSoup();
        soup.jar(km, 0, 0);
        soup.voice(0, act, 3);
        Due.is("BODIES of km " + km + ", act " + act, soup.count(10), due.length);
        for (int i = 0; i < due.length; i++) {
            Due.is("trace(" + i + ") of km " + km + ", act " + act, soup.trace(i), due[i]);
        }
        Due.is("behind them", soup.trace(due.length), Due.NONE);
        Due.is("ahead of them", soup.trace(-1), Due.NONE);
    }

    /** "as they began (what stands left is worked out first)"; super calls "from the KIND above the BODY's on". */
    private static void whatStandsLeftIsFirst() {
        trace(0, 3, 13, 11, 10, 12);
        trace(10, 3, 13, 11, 20, 10, 12);
        trace(20, 1, 30, 11, 10, 12);
        trace(20, 3, 13, 30, 11, 10, 12, 12);
        trace(30, 2, 40, 12);
        trace(30, 3, 13, 11, 10, 40, 12);
        trace(40, 3, 50, 13, 11, 20, 10, 12, 20, 10);
        trace(50, 1, 60, 30, 11, 10, 12);
        trace(50, 3, 13, 60, 30, 11, 10, 12, 12);
        trace(60, 2, 70, 40, 12);
        trace(60, 3, 71, 11, 10, 13, 11, 10, 70, 40, 12);
    }

    /** "THE TRACE: the numbers of BODIES of the latest voice()". */
    private static void theLatestTrace() {
        PeaSoup soup = new PeaSoup();
        Due.is("none yet", soup.count(10), 0);
        Due.is("none yet", soup.trace(0), Due.NONE);
        soup.jar(60, 0, 0);
        Due.is("refused", soup.voice(1, 0, 0), Due.BEYOND);
        Due.is("none yet", soup.count(10), 0);
        soup.voice(0, 3, 0);
        Due.is("nine", soup.count(10), 9);
        Due.is("refused", soup.voice(0, 4, 0), Due.BEYOND);
        Due.is("refused", soup.voice(0, -1, 0), Due.BEYOND);
        Due.is("refused", soup.voice(-1, 0, 0), Due.BEYOND);
        Due.is("nine still", soup.count(10), 9);
        Due.is("the last of them", soup.trace(8), 12);
        soup.voice(0, 0, 0);
        Due.is("one", soup.count(10), 1);
        Due.is("that", soup.trace(0), 10);
        Due.is("not those ahead", soup.trace(1), Due.NONE);
    }

    /** "A VOICE of a JAR: any number.": one below LOW is told to be no ERROR. */
    private static void anyNumberIsNoError() {
        PeaSoup soup = new PeaSoup();
        soup.jar(0, 0, 0);
        for (int k = 1; k <= 5; k++) {
            Due.is("an answer", soup.voice(0, 0, -1000000000 - k), -1000000000 - k);
            Due.is("no ERROR", soup.told(k), 0);
        }
        Due.is("its BODY", soup.trace(0), 10);
    }
}
