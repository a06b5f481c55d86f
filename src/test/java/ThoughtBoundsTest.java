/** Term 3 and promises 17 to 33: each sentence of the document that names a bound has a test here. */
public final class ThoughtBoundsTest {
    private static final int LEAST = Integer.MIN_VALUE;
    private static final int MOST = Integer.MAX_VALUE;

    public static void main(String[] args) {
        allIsOnlyThought();
        hoursBeyondTheLast();
        behindZeroAndSixty();
        sameAsHoursThatPass();
        nobodyIsSeenByOneself();
        firstWithinSixty();
        firstIsTheFirst();
        hideForZeroToTwenty();
        hideCountsFromOne();
        hideEachHour();
        fewestAheadOfLeast();
        othersAsTheyAre();
        notByAll();
        whichWithoutAndWithSixJars();
        whichJustThese();
        whichOfSixteenNumbers();
        thickestOfSeveral();
        clearWithinSixty();
        lastsWithinSixty();
        wayToItsOwn();
        wayItsOwnMayBeSeen();
        wayIsTheFewest();
        wayFromEachToEach();
        lampOfNobody();
        lampOfSeveral();
        mixOfNone();
        mixOfSeveral();
        oddsInLowestTerms();
        oddsBehindNHours();
        Due.end();
    }

    /** An object in which FOG neither drifts nor thins. */
    private static PeaSoup still() {
        PeaSoup soup = new PeaSoup();
        Due.text(soup, 0, "0");
        Due.text(soup, 1, "0");
        return soup;
    }

    /** Two PEOPLE at the ends of row 0, with FOG between them that is 1 less each HOUR. */
    private static PeaSoup apart(int fog) {
        PeaSoup soup = new PeaSoup();
        soup.person(0);
        soup.person(3);
        soup.lay(2, fog);
        return soup;
    }

    /** "(All this is only thought ..)": those calls, and all that only tell something, change nothing. */
    private static void allIsOnlyThought() {
        Twins.onlyAnswer("fog", Cities::some, x -> x.fog(0) * 0, 0);
        Twins.onlyAnswer("ofJar", Cities::some, x -> x.ofJar(1, 6) * 0, 0);
        Twins.onlyAnswer("as", Cities::some, x -> x.as(1, 0), 8);
        Twins.onlyAnswer("at", Cities::some, x -> x.at(1), 6);
        Twins.onlyAnswer("law", Cities::some, x -> x.law(0, 90, 5, 0), 15);
        Twins.onlyAnswer("then", Cities::some, x -> x.then(60, 3, 0) * 0, 0);
        Twins.onlyAnswer("then", Cities::some, x -> x.then(60, 3, 1) * 0, 0);
        Twins.onlyAnswer("sees", Cities::some, x -> x.sees(0, 1), 1);
        Twins.onlyAnswer("seen", Cities::some, x -> x.seen(), 3);
        Twins.onlyAnswer("first", Cities::some, x -> x.first(0), 0);
        Twins.onlyAnswer("hide", Cities::some, x -> x.hide(0, 0), 0);
        Twins.onlyAnswer("which", Cities::some, x -> x.which(0, 0), 0);
        Twins.onlyAnswer("thick", Cities::some, x -> x.thick(60, 0) * 0, 0);
        Twins.onlyAnswer("clear", Cities::some, x -> x.clear(900), 0);
        Twins.onlyAnswer("clear", Cities::some, x -> Math.min(1, x.clear(5)), 1);
        Twins.onlyAnswer("lasts", Cities::some, x -> Math.min(1, x.lasts(1)), 1);
        Twins.onlyAnswer("way", Cities::some, x -> x.way(0, 4), 0);
        Twins.onlyAnswer("lamp", Cities::some, x -> x.lamp(1), 2);
        Twins.onlyAnswer("mix", Cities::some, x -> x.mix(9, 0, 0), 0);
        Twins.onlyAnswer("mix", Cities::some, x -> x.mix(9, 500, 1) * 0, 0);
        Twins.onlyAnswer("odds", Cities::some, x -> x.odds(0, 60, 0) * 0, 0);
        Twins.onlyAnswer("trace", Cities::some, x -> x.trace(0), 13);
        Twins.onlyAnswer("judge", Cities::some, x -> x.judge(0), 0);
        Twins.onlyAnswer("count", Cities::some, x -> x.count(0), 2);
        Twins.onlyAnswer("told", Cities::some, x -> x.told(5), 0);
        Twins.refuse("hide, of six", Cities::full, x -> x.hide(5, 20), Due.NONE);
    }

    /** "(.. HOUR beyond 9999, too.)": h goes on, and nothing is STATE. */
    private static void hoursBeyondTheLast() {
        PeaSoup soup = new PeaSoup();
        Cities.late(soup, 9999);
        Due.text(soup, 0, "0");
        Due.text(soup, 1, "h");
        int[] fogs = {100, 85, 69, 52, 34, 15, 0}; // less by 15, 16, 17, ..
        for (int n = 0; n < fogs.length; n++) {
            Due.is("then", soup.then(n, 5, 0), fogs[n]);
            Due.is("thick", soup.thick(n, 1), fogs[n]);
        }
        Due.is("then 60", soup.then(60, 5, 0), 0);
        Due.is("first: 34 is below 50", soup.first(0), 4);
        Due.is("odds behind 3", soup.odds(0, 3, 0), 1);
        Due.is("odds behind 4", soup.odds(0, 4, 0), 0);
        Due.is("hide for 3", soup.hide(0, 3), 0);
        Due.is("hide for 4", soup.hide(0, 4), Due.NONE);
        Due.is("clear(85)", soup.clear(85), 1);
        Due.is("clear(84)", soup.clear(84), 2);
        Due.is("lasts", soup.lasts(0), 10);
        Due.is("mix", soup.mix(5, 0, 1), 85);
        soup.sheet(0, 16, 16);
        soup.put(0, 5, 85);
        Due.is("which", soup.which(0, 0), 2);
        for (int n = 1; n <= 5; n++) {
            soup.tell(fogs[n]);
        }
        Due.is("check", soup.check(), 0);
        Due.is("no STATE", soup.told(3), 0);
        Due.is("HOUR", soup.count(2), 9999);
        Due.is("but hours(1)", soup.hours(1), Due.STATE);
    }

    /** "BEHIND n HOURS (0 to 60)." */
    private static void behindZeroAndSixty() {
        PeaSoup soup = new PeaSoup();
        soup.lay(15, 61);
        Due.is("behind 0", soup.then(0, 15, 0), 61);
        Due.is("behind 0, of all", soup.then(0, 0, 1), 61);
        Due.is("behind 60", soup.then(60, 15, 0), 1);
        Due.is("behind 60, of all", soup.then(60, 0, 1), 1);
        Due.is("behind 61", soup.then(61, 15, 0), Due.BEYOND);
        Due.is("behind -1", soup.then(-1, 15, 0), Due.BEYOND);
        Due.is("thick behind 60", soup.thick(60, 0), 15);
        Due.is("its FOG", soup.thick(60, 1), 1);
        Due.is("thick behind 61", soup.thick(61, 0), Due.BEYOND);
        Due.is("thick behind -1", soup.thick(-1, 0), Due.BEYOND);
    }

    /** What would be behind n HOURS is what is then. */
    private static void sameAsHoursThatPass() {
        for (int n = 1; n <= 60; n++) {
            PeaSoup soup = new PeaSoup();
            Cities.some(soup);
            PeaSoup passed = new PeaSoup();
            Cities.some(passed);
            Due.is("FOG of all behind " + n, soup.then(n, 0, 1), passed.hours(n));
            for (int cell = 0; cell < 16; cell++) {
                Due.is("FOG of " + cell + " behind " + n, soup.then(n, cell, 0), passed.fog(cell));
            }
        }
    }

    /** "SEEN: those whom anybody else SEES, as a set." */
    private static void nobodyIsSeenByOneself() {
        PeaSoup soup = new PeaSoup();
        Due.is("nobody", soup.seen(), 0);
        soup.person(5);
        Due.is("one alone", soup.seen(), 0);
        soup.person(10);
        Due.is("two who don't SEE one another", soup.seen(), 0);
        soup.person(6);
        Due.is("the third is SEEN by both, and SEES them", soup.seen(), 7);
        for (int i = 3; i < 6; i++) {
            soup.person(6);
        }
        Due.is("six", soup.seen(), 63);
        soup.walk(0, 0);
        Due.is("without the first", soup.seen(), 62);
        soup.lay(6, 50);
        Due.is("none through FOG", soup.seen(), 0);
        soup.walk(5, 1);
        Due.is("the first and the last", soup.seen(), 33);
    }

    /** "FIRST of one: behind how many HOURS (0 to 60) ..". "NONE: not by 60." */
    private static void firstWithinSixty() {
        int[][] rows = {{0, 0}, {49, 0}, {50, 1}, {51, 2}, {108, 59}, {109, 60}, {110, Due.NONE}, {999, Due.NONE}};
        for (int[] row : rows) {
            PeaSoup soup = apart(row[0]);
            Due.is("first with " + row[0], soup.first(0), row[1]);
            Due.is("first with " + row[0], soup.first(1), row[1]);
        }
        PeaSoup soup = apart(0);
        Due.is("first(2)", soup.first(2), Due.BEYOND);
        Due.is("first(-1)", soup.first(-1), Due.BEYOND);
    }

    /** ".. anybody else SEES it first": though later nobody does. */
    private static void firstIsTheFirst() {
        PeaSoup soup = apart(52);
        soup.jar(60, 2, 1);
        Due.is("52, with 1 more, is 50 behind 3", soup.first(0), 4);
        PeaSoup now = still();
        now.person(0);
        now.person(1);
        now.jar(0, 0, 999);
        now.change(0, 3, 1);
        Due.is("now, and behind 5 no more", now.first(0), 0);
        Due.is("it is hidden then", now.odds(0, 5, 0), 1);
        PeaSoup day = new PeaSoup();
        Due.text(day, 0, "0");
        Due.text(day, 1, "(h=2)*30");
        day.person(0);
        day.person(1);
        day.lay(0, 60);
        day.jar(0, 0, 999);
        day.change(0, 3, 1);
        Due.is("60, 70, 80, 60, 70, ..: never", day.first(0), Due.NONE);
        day.lay(0, 49 + 30 - 30);
        Due.is("49 now", day.first(0), 0);
        day.lay(0, 50);
        Due.is("50, 60, 70, 50, ..: never", day.first(0), Due.NONE);
        Due.text(day, 1, "(h=2)*31");
        Due.is("50, 60, 70, 49, 59, ..", day.first(0), 3);
    }

    /** "HIDE one for n HOURS (0 to 20)". */
    private static void hideForZeroToTwenty() {
        for (int n = 0; n <= 20; n++) {
            PeaSoup soup = apart(50 + n);
            Due.is("50 behind " + n, soup.hide(0, n), 0);
            soup.lay(2, 49 + n);
            Due.is("49 behind " + n, soup.hide(0, n), n == 0 ? 0 : Due.NONE);
        }
        PeaSoup soup = apart(999);
        Due.is("for 21", soup.hide(0, 21), Due.BEYOND);
        Due.is("for -1", soup.hide(0, -1), Due.BEYOND);
        Due.is("hide(2, ..)", soup.hide(2, 1), Due.BEYOND);
        Due.is("hide(-1, ..)", soup.hide(-1, 1), Due.BEYOND);
    }

    /** ".. make nobody else SEE it behind 1, 2, .. n HOURS": now doesn't count. */
    private static void hideCountsFromOne() {
        PeaSoup soup = still();
        soup.person(0);
        soup.person(1);
        soup.set(1, 10);
        soup.jar(0, 1, 10);
        Due.is("it is SEEN now", soup.seen(), 3);
        Due.is("but not behind 1 .. 20, if 0 is OPEN", soup.hide(0, 20), 1);
        Due.is("for 0 HOURS none is needed", soup.hide(0, 0), 0);
    }

    /** ".. behind 1, 2, .. n": each of them counts, not the last alone. */
    private static void hideEachHour() {
        PeaSoup soup = still();
        soup.person(0);
        soup.person(1);
        soup.set(1, 20);
        soup.jar(0, 1, 999);
        Due.is("10 behind 1 is too little", soup.hide(0, 1), Due.NONE);
        Due.is("20 behind 2 is not, but 10 ahead was", soup.hide(0, 2), Due.NONE);
        soup.lay(1, 10);
        Due.is("with 10 now", soup.hide(0, 2), 1);
    }

    /** "the fewest JARS ..; of several sets the least." */
    private static void fewestAheadOfLeast() {
        PeaSoup soup = still();
        soup.person(0);
        soup.person(1);
        soup.set(1, 20);
        for (int i = 0; i < 5; i++) {
            soup.jar(0, 1, 999);
        }
        soup.jar(40, 1, 999);
        Due.is("one that lets 20 rather than two with 10", soup.hide(0, 1), 32);
        soup.become(4, 40);
        Due.is("of two such the least", soup.hide(0, 1), 16);
        soup.set(1, 40);
        Due.is("both", soup.hide(0, 1), 48);
        soup.set(1, 30);
        Due.is("20 and 10, of several the least", soup.hide(0, 1), 17);
        soup.set(1, 80);
        Due.is("all", soup.hide(0, 1), 63);
        soup.set(1, 81);
        Due.is("not by all", soup.hide(0, 1), Due.NONE);
    }

    /** "(all others as they are)": those that are OPEN stay so, and need not be told. */
    private static void othersAsTheyAre() {
        PeaSoup soup = still();
        soup.person(0);
        soup.person(1);
        soup.set(1, 20);
        soup.jar(0, 1, 999);
        soup.jar(0, 1, 999);
        soup.change(0, 3, 1);
        Due.is("the second, the first being OPEN", soup.hide(0, 1), 2);
        soup.change(1, 3, 1);
        Due.is("none, both being OPEN", soup.hide(0, 1), 0);
        soup.become(0, 60);
        soup.change(0, 3, 0);
        soup.change(1, 3, 0);
        soup.change(0, 1, 100);
        Due.is("none, as a LEAK lets 30", soup.hide(0, 1), 0);
    }

    /** "NONE: not by all." */
    private static void notByAll() {
        PeaSoup soup = new PeaSoup();
        soup.person(0);
        soup.person(0);
        Due.is("without JARS", soup.hide(0, 1), Due.NONE);
        for (int i = 0; i < 6; i++) {
            soup.jar(0, 5, 999);
        }
        Due.is("with six elsewhere", soup.hide(0, 1), Due.NONE);
        PeaSoup odd = still();
        Due.text(odd, 1, "(f>15)*999");
        odd.person(0);
        odd.person(1);
        odd.set(1, 5);
        odd.jar(0, 1, 10);
        odd.jar(0, 1, 10);
        Due.is("one does what both don't", odd.hide(0, 1), 1);
    }

    /** "WHICH: .. sets of JARS by which that is so ..: how many; the least." */
    private static void whichWithoutAndWithSixJars() {
        PeaSoup soup = still();
        soup.sheet(0, 16, 16);
        Due.is("no JARS, no FOG: the set of none", soup.which(0, 0), 1);
        Due.is("the least", soup.which(0, 1), 0);
        soup.put(0, 15, 1);
        Due.is("no set", soup.which(0, 0), 0);
        Due.is("there is none", soup.which(0, 1), Due.NONE);
        soup.put(0, 15, 0);
        for (int i = 0; i < 6; i++) {
            soup.jar(0, i, 0);
        }
        Due.is("six empty JARS: every set", soup.which(0, 0), 64);
        Due.is("the least", soup.which(0, 1), 0);
        for (int i = 0; i < 6; i++) {
            soup.change(i, 1, 10);
            soup.put(0, i, 10);
        }
        Due.is("all six, and no other set", soup.which(0, 0), 1);
        Due.is("the set of all", soup.which(0, 1), 63);
        soup.put(0, 0, 0);
        Due.is("without the first", soup.which(0, 1), 62);
        soup.put(0, 0, 9);
        Due.is("9 is not 10", soup.which(0, 0), 0);
    }

    /** "just these being OPEN": others aren't, though they are now. */
    private static void whichJustThese() {
        PeaSoup soup = still();
        soup.jar(0, 3, 100);
        soup.change(0, 3, 1);
        soup.sheet(0, 32, 16);
        Due.is("none, though it is OPEN", soup.which(0, 1), 0);
        soup.jar(60, 4, 10);
        Due.is("a LEAK lets it out in any set", soup.which(0, 0), 0);
        soup.put(0, 4, 10);
        Due.is("OPEN or not", soup.which(0, 0), 2);
        soup.put(0, 3, 10);
        Due.is("the least of those", soup.which(0, 1), 1);
        Due.is("it stays OPEN", soup.count(7), 1);
    }

    /** "NONE: the SHEET is missing, has not 16 numbers". */
    private static void whichOfSixteenNumbers() {
        PeaSoup soup = new PeaSoup();
        int[] lengths = {0, 1, 15, 16, 17, 39, 40};
        for (int bits = 8; bits <= 32; bits *= 2) {
            for (int n : lengths) {
                soup.sheet(2, bits, n);
                Due.is("which of " + n, soup.which(2, 0), n == 16 ? 1 : Due.NONE);
                Due.is("the least of " + n, soup.which(2, 1), n == 16 ? 0 : Due.NONE);
            }
        }
        soup.sheet(2, 32, 16);
        for (int v : new int[] {-1, 1000, 65536, 256, LEAST, MOST}) {
            soup.put(2, 7, v);
            Due.is("FOG is never " + v, soup.which(2, 0), 0);
        }
        soup.sheet(2, 0, 16);
        Due.is("missing", soup.which(2, 0), Due.NONE);
    }

    /** "the CELL with most FOG; of several the least". */
    private static void thickestOfSeveral() {
        PeaSoup soup = new PeaSoup();
        Due.is("all have none", soup.thick(0, 0), 0);
        for (int cell = 15; cell >= 0; cell--) {
            soup.lay(cell, 999);
            Due.is("of several the least", soup.thick(0, 0), cell);
        }
        for (int cell = 0; cell < 15; cell++) {
            soup.lay(cell, 998);
            Due.is("998 is less", soup.thick(0, 0), cell + 1);
        }
        Due.is("FOG there", soup.thick(0, 1), 999);
    }

    /** "CLEAR for v (0 to 999): behind how many HOURS (0 to 60) FOG is v or less in each CELL first." */
    private static void clearWithinSixty() {
        PeaSoup soup = new PeaSoup();
        Due.is("no FOG", soup.clear(0), 0);
        soup.lay(15, 60);
        Due.is("60 behind 60", soup.clear(0), 60);
        Due.is("59", soup.clear(59), 1);
        Due.is("60", soup.clear(60), 0);
        soup.lay(15, 61);
        Due.is("61 is not", soup.clear(0), Due.NONE);
        Due.is("but 1", soup.clear(1), 60);
        soup.lay(0, 999);
        Due.is("in each CELL", soup.clear(939), 60);
        Due.is("in each CELL", soup.clear(938), Due.NONE);
        Due.is("999", soup.clear(999), 0);
        Due.is("998", soup.clear(998), 1);
        Due.is("1000", soup.clear(1000), Due.BEYOND);
        Due.is("-1", soup.clear(-1), Due.BEYOND);
    }

    /** "LASTS of a JAR: behind how many HOURS (0 to 60) its FILL is 0 first." */
    private static void lastsWithinSixty() {
        int[][] rows = { // km, FILL, OPEN, LASTS
            {0, 0, 0, 0}, {0, 0, 1, 0}, {0, 1, 0, Due.NONE}, {0, 1, 1, 1}, {0, 10, 1, 1}, {0, 11, 1, 2},
            {0, 590, 1, 59}, {0, 591, 1, 60}, {0, 600, 1, 60}, {0, 601, 1, Due.NONE}, {0, 999, 1, Due.NONE},
            {60, 22, 0, 1}, {60, 23, 0, 2}, {60, 22, 1, 1}, {30, 22, 0, Due.NONE}, {30, 22, 1, 1}, {30, 23, 1, 2}};
        for (int[] row : rows) {
            PeaSoup soup = new PeaSoup();
            soup.jar(row[0], 0, row[1]);
            soup.change(0, 3, row[2]);
            Due.is("km " + row[0] + ", FILL " + row[1] + ", OPEN " + row[2], soup.lasts(0), row[3]);
            Due.is("lasts(1)", soup.lasts(1), Due.BEYOND);
        }
    }

    /** "WAY (0: it is there)." */
    private static void wayToItsOwn() {
        PeaSoup soup = new PeaSoup();
        soup.person(5);
        Due.is("alone", soup.way(0, 5), 0);
        soup.person(5);
        Due.is("though it is SEEN there", soup.way(0, 5), 0);
        Due.is("and all around", soup.way(0, 6), Due.NONE);
    }

    /** "in none of which (its own may be) anybody else would SEE it now". */
    private static void wayItsOwnMayBeSeen() {
        PeaSoup soup = new PeaSoup();
        soup.person(1);
        soup.person(3);
        Due.is("it is SEEN where it is", soup.seen(), 3);
        Due.is("down, where it isn't", soup.way(0, 5), 1);
        Due.is("to 4", soup.way(0, 4), 2);
        Due.is("0 is SEEN from 3", soup.way(0, 0), Due.NONE);
        Due.is("7 is SEEN from 3", soup.way(0, 7), Due.NONE);
        Due.is("3, where the other is", soup.way(0, 3), Due.NONE);
        Due.is("the other: 2 is SEEN from 1, but 7, 6 are not", soup.way(1, 6), 2);
        soup.lay(3, 50);
        Due.is("3 in FOG, by 5, 6, 7", soup.way(0, 3), 2);
        soup.lay(3, 49);
        Due.is("in less FOG", soup.way(0, 3), Due.NONE);
    }

    /** "the fewest CELLS through which it must go": around five who each SEE but their own CELL. */
    private static void wayIsTheFewest() {
        PeaSoup soup = new PeaSoup();
        for (int cell = 0; cell < 16; cell++) {
            soup.lay(cell, 50);
        }
        soup.person(0);
        int[] walls = {4, 5, 6, 9, 10};
        for (int wall : walls) {
            soup.lay(wall, 0);
            soup.person(wall);
        }
        int[] due = {0, 1, 2, 3, -1, -1, -1, 4, 10, -1, -1, 5, 9, 8, 7, 6};
        for (int cell = 0; cell < 16; cell++) {
            Due.is("way to " + cell, soup.way(0, cell), due[cell] < 0 ? Due.NONE : due[cell]);
        }
        soup.walk(0, 8);
        Due.is("and back to 0", soup.way(0, 0), 10);
        soup.walk(0, 0);
        soup.walk(5, 1);
        soup.lay(10, 50);
        soup.lay(1, 0);
        Due.is("shut in", soup.way(0, 2), Due.NONE);
        Due.is("but there", soup.way(0, 0), 0);
    }

    /** From each CELL to each, with nobody else: as many as rows and places lie between them. */
    private static void wayFromEachToEach() {
        for (int from = 0; from < 16; from++) {
            PeaSoup soup = new PeaSoup();
            soup.person(from);
            for (int to = 0; to < 16; to++) {
                int due = Math.abs(from / 4 - to / 4) + Math.abs(from % 4 - to % 4);
                Due.is("from " + from + " to " + to, soup.way(0, to), due);
            }
        }
    }

    /** "LAMP: the CELL from which .. most PEOPLE would be SEEN"; with nobody to be SEEN it is the least. */
    private static void lampOfNobody() {
        PeaSoup soup = new PeaSoup();
        Due.is("no PEOPLE", soup.lamp(0), 0);
        Due.is("none", soup.lamp(1), 0);
        soup.person(15);
        soup.lay(15, 50);
        Due.is("one in thick FOG", soup.lamp(0), 0);
        Due.is("none", soup.lamp(1), 0);
        soup.lay(15, 49);
        Due.is("in less FOG, from 3 on", soup.lamp(0), 3);
        Due.is("one", soup.lamp(1), 1);
        Due.is("lamp(2)", soup.lamp(2), Due.BEYOND);
        Due.is("lamp(-1)", soup.lamp(-1), Due.BEYOND);
    }

    /** "(those in it, too); of several the least". */
    private static void lampOfSeveral() {
        PeaSoup soup = new PeaSoup();
        for (int i = 0; i < 6; i++) {
            soup.person(10);
        }
        Due.is("six from 2 on", soup.lamp(0), 2);
        Due.is("six", soup.lamp(1), 6);
        soup.lay(10, 49);
        for (int cell = 0; cell < 16; cell++) {
            if (cell != 10) {
                soup.lay(cell, 1);
            }
        }
        Due.is("only from where they are", soup.lamp(0), 10);
        Due.is("six", soup.lamp(1), 6);
        PeaSoup row = new PeaSoup();
        int[] cells = {12, 13, 14, 15, 1, 7};
        for (int cell : cells) {
            row.person(cell);
        }
        Due.is("four in the row, and 1 above 13", row.lamp(0), 13);
        Due.is("five", row.lamp(1), 5);
        row.walk(5, 4);
        Due.is("12 has four and 4 above, too", row.lamp(0), 12);
        for (int cell = 0; cell < 16; cell++) {
            PeaSoup one = new PeaSoup();
            one.person(cell);
            one.set(1, 1);
            for (int other = 0; other < 16; other++) {
                one.lay(other, other == cell ? 0 : 1);
            }
            Due.is("from " + cell + " alone", one.lamp(0), cell);
            Due.is("from " + cell + " alone", one.lamp(1), 1);
        }
    }

    /** "MIX for a CELL, v (0 to 999)": without JARS the set of none. */
    private static void mixOfNone() {
        PeaSoup soup = new PeaSoup();
        soup.lay(15, 100);
        Due.is("v 0", soup.mix(15, 0, 0), 0);
        Due.is("its FOG", soup.mix(15, 0, 1), 99);
        Due.is("v 999", soup.mix(15, 999, 0), 0);
        Due.is("its FOG", soup.mix(15, 999, 1), 99);
        Due.is("v 1000", soup.mix(15, 1000, 0), Due.BEYOND);
        Due.is("v -1", soup.mix(15, -1, 0), Due.BEYOND);
        Due.is("CELL 16", soup.mix(16, 0, 0), Due.BEYOND);
        Due.is("CELL -1", soup.mix(-1, 0, 0), Due.BEYOND);
        Due.is("what 2", soup.mix(15, 0, 2), Due.BEYOND);
        Due.is("what -1", soup.mix(15, 0, -1), Due.BEYOND);
    }

    /** "nearest to v .. (the difference, without sign); of several the least". */
    private static void mixOfSeveral() {
        PeaSoup soup = still();
        for (int i = 0; i < 6; i++) {
            soup.jar(i == 1 ? 40 : 0, 0, 100);
        }
        int[][] rows = { // v, the set, FOG: 0 lets 10, 1 lets 20, the others 10
            {0, 0, 0}, {4, 0, 0}, {5, 0, 0}, {6, 1, 10}, {10, 1, 10}, {14, 1, 10}, {15, 1, 10}, {16, 2, 20},
            {20, 2, 20}, {25, 2, 20}, {26, 3, 30}, {35, 3, 30}, {36, 7, 40}, {65, 31, 60}, {66, 63, 70}, {999, 63, 70}};
        for (int[] row : rows) {
            Due.is("the set for " + row[0], soup.mix(0, row[0], 0), row[1]);
            Due.is("FOG for " + row[0], soup.mix(0, row[0], 1), row[2]);
        }
        soup.change(0, 3, 1);
        Due.is("just these: 0 isn't OPEN then", soup.mix(0, 0, 1), 0);
        PeaSoup far = still();
        far.jar(0, 0, 1);
        Due.is("1 is nearer to 999 than 0 is", far.mix(0, 999, 0), 1);
        far.lay(0, 998);
        Due.is("999 is farther from 0 than 998", far.mix(0, 0, 1), 998);
    }

    /** "a fraction in lowest terms (0 is 0 by 1)". */
    private static void oddsInLowestTerms() {
        int[][] due = {{0, 1}, {1, 10}, {1, 5}, {3, 10}, {2, 5}, {1, 2}, {3, 5}, {7, 10}, {4, 5}, {9, 10}, {1, 1}};
        for (int winds = 0; winds <= 10; winds++) {
            PeaSoup soup = new PeaSoup();
            Due.text(soup, 0, "0");
            soup.set(0, winds % 10);
            soup.person(0);
            soup.person(0);
            soup.lay(0, 50 + winds); // less by WIND and 1: hidden for so many of the winds
            Due.is(winds + " winds, above", soup.odds(0, 1, 0), due[winds][0]);
            Due.is(winds + " winds, below", soup.odds(0, 1, 1), due[winds][1]);
            Due.is("WIND stays", soup.count(3), winds % 10);
        }
    }

    /** "that nobody else SEES one behind n HOURS": 0 to 60, and not ahead of that. */
    private static void oddsBehindNHours() {
        PeaSoup soup = apart(49);
        soup.jar(0, 2, 1);
        soup.change(0, 3, 1);
        Due.is("SEEN now, above", soup.odds(0, 0, 0), 0);
        Due.is("SEEN now, below", soup.odds(0, 0, 1), 1);
        soup.lay(2, 50);
        Due.is("not SEEN now, above", soup.odds(0, 0, 0), 1);
        Due.is("not SEEN now, below", soup.odds(0, 0, 1), 1);
        soup.lay(2, 0);
        Due.text(soup, 0, "0");
        Due.text(soup, 1, "0");
        soup.change(0, 1, 999);
        Due.is("10 .. 40 are SEEN, 50 is not", soup.odds(0, 4, 0), 0);
        Due.is("10 .. 40 are SEEN, 50 is not", soup.odds(0, 5, 0), 1);
        Due.is("behind 60", soup.odds(0, 60, 0), 1);
        Due.is("behind 61", soup.odds(0, 61, 0), Due.BEYOND);
        Due.is("behind -1", soup.odds(0, -1, 0), Due.BEYOND);
        Due.is("part 2", soup.odds(0, 0, 2), Due.BEYOND);
        Due.is("part -1", soup.odds(0, 0, -1), Due.BEYOND);
        Due.is("odds(2, ..)", soup.odds(2, 0, 0), Due.BEYOND);
    }
}
