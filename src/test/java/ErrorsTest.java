/** Each ERROR of each act, in the order in which they are asked, changes nothing but what told() tells. */
public final class ErrorsTest {
    private static PeaSoup soup;
    private static String all;
    private static final int[] TOLD = new int[6];

    public static void main(String[] args) {
        soup = full();
        all = Due.all(soup);
        city();
        textsAndHours();
        whatWouldBe();
        theRest();
        fullOnes();
        Due.end();
    }

    /** A city with six JARS, six PEOPLE, a TAPE that is full, 20 numbers that wait, SHEETS 0 (16 bits) and 1 (8). */
    private static PeaSoup full() {
        PeaSoup made = new PeaSoup();
        for (int i = 0; i < 6; i++) {
            made.jar(10 * i + i, i, 100 * i);
            made.person(2 * i);
            made.lay(i, 20 * i);
        }
        made.set(1, 999);
        Due.text(made, 0, "f/5");
        Due.feed(made, "f+f+f+f+f+f+f+f+f+f+f+f+f+f+f+f+f+f+f+f+f+f+f+f+99");
        for (int i = 0; i < 20; i++) {
            made.tell(i);
        }
        made.voice(4, 3, 2);
        made.sheet(0, 16, 5);
        made.sheet(1, 8, 5);
        return made;
    }

    private static void due(String call, int got, int want) {
        int k = -1000000000 - want;
        Due.error(soup, call, TOLD[k], all, got, want);
        TOLD[k]++;
    }

    private static void city() {
        due("lay", soup.lay(16, 0), Due.BEYOND);
        due("lay", soup.lay(0, 1000), Due.BEYOND);
        due("fog", soup.fog(-1), Due.BEYOND);
        due("set", soup.set(0, 10), Due.BEYOND);
        due("jar: FULL", soup.jar(0, 0, 0), Due.FULL);
        due("jar: BEYOND ahead of FULL", soup.jar(70, 0, 0), Due.BEYOND);
        due("ofJar", soup.ofJar(6, 0), Due.BEYOND);
        due("change", soup.change(0, 2, 100), Due.BEYOND);
        due("become", soup.become(0, 70), Due.BEYOND);
        due("as: BEYOND", soup.as(0, 7), Due.BEYOND);
        due("as: KIND", soup.as(0, 6), Due.KIND);
        due("person: FULL", soup.person(0), Due.FULL);
        due("person: BEYOND ahead of FULL", soup.person(16), Due.BEYOND);
        due("walk", soup.walk(0, 16), Due.BEYOND);
        due("at", soup.at(6), Due.BEYOND);
    }

    private static void textsAndHours() {
        due("feed: FULL", soup.feed(0L, 1), Due.FULL);
        due("feed: BEYOND ahead of FULL", soup.feed(0L, 9), Due.BEYOND);
        due("text", soup.text(2), Due.BEYOND);
        due("law", soup.law(-1, 0, 0, 0), Due.BEYOND);
        due("hours", soup.hours(61), Due.BEYOND);
        due("loose", soup.loose(41), Due.BEYOND);
    }

    private static void whatWouldBe() {
        due("then", soup.then(61, 0, 0), Due.BEYOND);
        due("sees", soup.sees(2, 2), Due.BEYOND);
        due("first", soup.first(6), Due.BEYOND);
        due("hide: BEYOND", soup.hide(0, 21), Due.BEYOND);
        due("hide: NONE", soup.hide(0, 20), Due.NONE);
        due("which: BEYOND ahead of NONE", soup.which(2, 2), Due.BEYOND);
        due("which: NONE", soup.which(2, 0), Due.NONE);
        due("which: NONE", soup.which(0, 0), Due.NONE);
        due("thick", soup.thick(0, 2), Due.BEYOND);
        due("clear", soup.clear(1000), Due.BEYOND);
        due("lasts: BEYOND", soup.lasts(6), Due.BEYOND);
        due("lasts: NONE", soup.lasts(5), Due.NONE);
        due("way: BEYOND", soup.way(6, 0), Due.BEYOND);
        due("way: NONE", soup.way(0, 8), Due.NONE);
        due("lamp", soup.lamp(2), Due.BEYOND);
        due("mix", soup.mix(0, 0, 2), Due.BEYOND);
        due("odds", soup.odds(0, 61, 0), Due.BEYOND);
    }

    private static void theRest() {
        due("voice", soup.voice(0, 4, 0), Due.BEYOND);
        due("trace", soup.trace(8), Due.NONE);
        due("sheet: BEYOND ahead of STATE", soup.sheet(0, 9, -1), Due.BEYOND);
        due("sheet: STATE", soup.sheet(0, 8, -1), Due.STATE);
        due("sheet: BEYOND", soup.sheet(0, 8, 41), Due.BEYOND);
        due("put: BEYOND", soup.put(4, 0, 0), Due.BEYOND);
        due("put: NONE", soup.put(2, 9, 0), Due.NONE);
        due("put: BEYOND", soup.put(0, 5, 0), Due.BEYOND);
        due("move: BEYOND ahead of NONE", soup.move(2, 0, 4, 0, 0), Due.BEYOND);
        due("move: NONE ahead of KIND", soup.move(2, 0, 0, 0, 0), Due.NONE);
        due("move: KIND ahead of BEYOND", soup.move(0, -1, 1, 0, 0), Due.KIND);
        due("move: BEYOND", soup.move(0, 0, 0, 1, 5), Due.BEYOND);
        due("fogs: BEYOND", soup.fogs(4), Due.BEYOND);
        due("fogs: NONE", soup.fogs(2), Due.NONE);
        due("judge: BEYOND", soup.judge(4), Due.BEYOND);
        due("judge: NONE", soup.judge(2), Due.NONE);
        due("restore", soup.restore(), Due.NONE);
        due("tell", soup.tell(0), Due.FULL);
        due("count", soup.count(12), Due.BEYOND);
        due("told", soup.told(0), Due.BEYOND);
    }

    private static void fullOnes() {
        Due.is("SHEET 0 is as it was", soup.put(0, 4, 1), 1);
        Due.is("THE TAPE is as it was", soup.text(1), 1);
        Due.is("its TEXT", soup.law(1, 2, 0, 0), 24 * 2 + 99);
        for (int k = 1; k <= 5; k++) {
            Due.is("told(" + k + ")", soup.told(k), TOLD[k]);
        }
    }
}
