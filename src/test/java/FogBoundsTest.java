/** Term 1 and promises 1 to 12, 16: each sentence of the document that names a bound has a test here. */
public final class FogBoundsTest {
    public static void main(String[] args) {
        errorsAreBelowLow();
        nextToOneAreThoseOfWhichThereAre();
        atFirst();
        fogIsWithin0And999();
        windAndSight();
        kindsAndMarks();
        changesOfAJar();
        sixJars();
        sixPeople();
        letsAtMostFill();
        letsOfAJar();
        letsOfAQuart();
        letsOfAVintage();
        letsOfADrum();
        letsOfAHeadache();
        letsOfAScandal();
        letsOfALeak();
        onlyALeakLetsWhenNotOpen();
        seesInRowsAndColumns();
        seesBelowSight();
        oneCellOnce();
        fogOfAJarIsHeld();
        fillEnds();
        ageIsHeld();
        noMoreThanAQuarter();
        theQuarterIsCut();
        heldOnlyThen();
        allAtOnce();
        thinsToZero();
        thinsByFogAsItIsThen();
        hoursOfADay();
        theLastHour();
        Due.end();
    }

    /** An object in which FOG neither drifts nor thins. */
    private static PeaSoup still() {
        PeaSoup soup = new PeaSoup();
        Due.text(soup, 0, "0");
        Due.text(soup, 1, "0");
        return soup;
    }

    /** "LOW is -1000000000; LOW - 1 BEYOND, LOW - 2 NONE, LOW - 3 STATE, LOW - 4 FULL, LOW - 5 KIND." */
    private static void errorsAreBelowLow() {
        PeaSoup soup = new PeaSoup();
        Due.is("BEYOND", soup.fog(16), -1000000001);
        Due.is("NONE", soup.restore(), -1000000002);
        Due.is("STATE", soup.sheet(0, 8, -1), -1000000003);
        for (int i = 0; i < 6; i++) {
            soup.person(0);
        }
        Due.is("FULL", soup.person(0), -1000000004);
        soup.jar(0, 0, 0);
        Due.is("KIND", soup.as(0, 1), -1000000005);
        for (int k = 1; k <= 5; k++) {
            Due.is("told(" + k + ")", soup.told(k), 1);
        }
    }

    /** "NEXT to one are those above, below, left, right of it, of which there are." */
    private static void nextToOneAreThoseOfWhichThereAre() {
        int[][] next = { // a CELL, and those NEXT to it
            {0, 1, 4}, {1, 0, 2, 5}, {2, 1, 3, 6}, {3, 2, 7}, {4, 0, 5, 8}, {5, 1, 4, 6, 9}, {6, 2, 5, 7, 10},
            {7, 3, 6, 11}, {8, 4, 9, 12}, {9, 5, 8, 10, 13}, {10, 6, 9, 11, 14}, {11, 7, 10, 15}, {12, 8, 13},
            {13, 9, 12, 14}, {14, 10, 13, 15}, {15, 11, 14}};
        for (int[] row : next) {
            PeaSoup soup = new PeaSoup();
            Due.text(soup, 0, "1");
            Due.text(soup, 1, "0");
            soup.lay(row[0], 40);
            soup.hours(1);
            int[] due = new int[16];
            due[row[0]] = 40 - (row.length - 1);
            for (int i = 1; i < row.length; i++) {
                due[row[i]] = 1;
            }
            for (int cell = 0; cell < 16; cell++) {
                Due.is("from " + row[0] + " to " + cell, soup.fog(cell), due[cell]);
            }
        }
    }

    /** "All as at first; no FOG, JARS, PEOPLE." "(0 at first)", "(50 at first)", "z is told (1 at first)". */
    private static void atFirst() {
        PeaSoup soup = new PeaSoup();
        int[] due = {0, 0, 0, 0, 50, 0, 0, 0, 0, 0, 0, 1};
        for (int what = 0; what < due.length; what++) {
            Due.is("count(" + what + ")", soup.count(what), due[what]);
        }
        Due.is("FOG of all", soup.thick(0, 1), 0);
        Due.is("nobody is SEEN", soup.seen(), 0);
        Due.is("numbers that wait", soup.check(), 0);
        Due.is("an IMAGE", soup.image(), 1);
        soup.jar(0, 0, 9);
        Due.is("AGE at first", soup.ofJar(0, 4), 0);
        Due.is("OPEN at first", soup.ofJar(0, 5), 0);
    }

    /** "Each has FOG (0 to 999 ..)": lay. */
    private static void fogIsWithin0And999() {
        PeaSoup soup = new PeaSoup();
        for (int cell = 0; cell <= 15; cell += 15) {
            Due.is("999 to " + cell, soup.lay(cell, 999), 0);
            Due.is("1000 to " + cell, soup.lay(cell, 1000), Due.BEYOND);
            Due.is("-1 to " + cell, soup.lay(cell, -1), Due.BEYOND);
            Due.is("FOG of " + cell, soup.fog(cell), 999);
            Due.is("0 to " + cell, soup.lay(cell, 0), 999);
            Due.is("FOG of " + cell, soup.fog(cell), 0);
        }
    }

    /** "WIND (0 to 9 ..), SIGHT (1 to 999 ..)": set. */
    private static void windAndSight() {
        PeaSoup soup = new PeaSoup();
        Due.is("WIND 9", soup.set(0, 9), 0);
        Due.is("WIND 10", soup.set(0, 10), Due.BEYOND);
        Due.is("WIND -1", soup.set(0, -1), Due.BEYOND);
        Due.is("WIND 0", soup.set(0, 0), 9);
        Due.is("SIGHT 999", soup.set(1, 999), 50);
        Due.is("SIGHT 1000", soup.set(1, 1000), Due.BEYOND);
        Due.is("SIGHT 0", soup.set(1, 0), Due.BEYOND);
        Due.is("SIGHT 1", soup.set(1, 1), 999);
        Due.is("WIND 10, which a SIGHT may be", soup.set(0, 10), Due.BEYOND);
        Due.is("what 2", soup.set(2, 1), Due.BEYOND);
        Due.is("what -1", soup.set(-1, 1), Due.BEYOND);
        Due.is("WIND", soup.count(3), 0);
        Due.is("SIGHT", soup.count(4), 1);
    }

    /** "km: 10 times the KIND, and m"; "m (0 to 9)". */
    private static void kindsAndMarks() {
        PeaSoup soup = new PeaSoup();
        soup.jar(0, 0, 0);
        for (int km = 0; km <= 69; km++) {
            soup.become(0, km);
            Due.is("KIND of " + km, soup.ofJar(0, 0), km / 10);
            Due.is("m of " + km, soup.ofJar(0, 1), km % 10);
        }
        Due.is("km 70", soup.become(0, 70), Due.BEYOND);
        Due.is("km -1", soup.become(0, -1), Due.BEYOND);
        Due.is("the KIND that it was", soup.become(0, 9), 6);
    }

    /** "CELL (what 0), FILL (1), AGE (2), OPEN (3: 0, 1) of a JAR becomes v: what it was." */
    private static void changesOfAJar() {
        PeaSoup soup = new PeaSoup();
        soup.jar(69, 7, 500);
        int[] most = {15, 999, 99, 1};
        int[] was = {7, 500, 0, 0};
        for (int what = 0; what < 4; what++) {
            Due.is("the most of " + what, soup.change(0, what, most[what]), was[what]);
            Due.is("it is so", soup.ofJar(0, 2 + what), most[what]);
            Due.is("beyond it", soup.change(0, what, most[what] + 1), Due.BEYOND);
            Due.is("below 0", soup.change(0, what, -1), Due.BEYOND);
            Due.is("it is so still", soup.ofJar(0, 2 + what), most[what]);
            Due.is("the least of " + what, soup.change(0, what, 0), most[what]);
            Due.is("it is so", soup.ofJar(0, 2 + what), 0);
        }
        Due.is("KIND", soup.ofJar(0, 0), 6);
        Due.is("m", soup.ofJar(0, 1), 9);
        Due.is("what 4", soup.change(0, 4, 0), Due.BEYOND);
        Due.is("what -1", soup.change(0, -1, 0), Due.BEYOND);
    }

    /** "JARS 0, 1, .. (at most 6)": jar, FULL. */
    private static void sixJars() {
        PeaSoup soup = new PeaSoup();
        for (int i = 0; i < 6; i++) {
            Due.is("one not there yet", soup.ofJar(i, 0), Due.BEYOND);
            Due.is("one more", soup.jar(10 * i, 15 - i, 999 - i), i);
        }
        Due.is("the seventh", soup.jar(0, 0, 0), Due.FULL);
        Due.is("count(0)", soup.count(0), 6);
        for (int i = 0; i < 6; i++) {
            Due.is("KIND of " + i, soup.ofJar(i, 0), i);
            Due.is("CELL of " + i, soup.ofJar(i, 2), 15 - i);
            Due.is("FILL of " + i, soup.ofJar(i, 3), 999 - i);
        }
        Due.is("FILLS of all", soup.count(6), 6 * 999 - 15);
        for (int i = 0; i < 6; i++) {
            soup.change(i, 3, 1);
            Due.is("OPEN, as a set", soup.count(7), (2 << i) - 1);
        }
    }

    /** "PEOPLE 0, 1, .. (at most 6)": person, FULL. */
    private static void sixPeople() {
        PeaSoup soup = new PeaSoup();
        for (int i = 0; i < 6; i++) {
            Due.is("one not there yet", soup.at(i), Due.BEYOND);
            Due.is("one more", soup.person(3 * i), i);
        }
        Due.is("the seventh", soup.person(0), Due.FULL);
        Due.is("count(1)", soup.count(1), 6);
        for (int i = 0; i < 6; i++) {
            Due.is("at " + i, soup.at(i), 3 * i);
        }
    }

    private static void lets(int km, int age, int fill, int due) {
        PeaSoup soup = new PeaSoup();
        soup.jar(km, 5, fill);
        soup.change(0, 2, age);
        Due.is("LETS of km " + km + ", AGE " + age + ", FILL " + fill, soup.ofJar(0, 6), due);
        Due.text(soup, 0, "0");
        Due.text(soup, 1, "0");
        soup.change(0, 3, 1);
        soup.hours(1);
        Due.is("FOG of it", soup.fog(5), due);
        Due.is("FILL then", soup.ofJar(0, 3), fill - due);
    }

    /** "(.. of FILL f; f at most, 0 at least)". */
    private static void letsAtMostFill() {
        for (int kind = 0; kind < 7; kind++) {
            lets(10 * kind + 9, 99, 0, 0);
            lets(10 * kind + 9, 99, 1, 1);
        }
    }

    /** "JAR: 10." */
    private static void letsOfAJar() {
        lets(9, 99, 9, 9);
        lets(9, 99, 10, 10);
        lets(9, 99, 11, 10);
        lets(0, 0, 999, 10);
    }

    /** "QUART: that, and m." */
    private static void letsOfAQuart() {
        lets(10, 99, 11, 10);
        lets(19, 0, 18, 18);
        lets(19, 0, 19, 19);
        lets(19, 0, 20, 19);
    }

    /** "VINTAGE: that, and AGE." */
    private static void letsOfAVintage() {
        lets(29, 0, 999, 10);
        lets(20, 1, 999, 11);
        lets(20, 99, 108, 108);
        lets(20, 99, 109, 109);
        lets(20, 99, 110, 109);
    }

    /** "DRUM: a tenth of f (cut), and 20." */
    private static void letsOfADrum() {
        lets(39, 99, 20, 20);
        lets(39, 99, 21, 21);
        lets(39, 99, 22, 22);
        lets(39, 99, 23, 22);
        lets(39, 99, 29, 22);
        lets(39, 99, 30, 23);
        lets(30, 0, 989, 118);
        lets(30, 0, 990, 119);
        lets(30, 0, 999, 119);
    }

    /** "HEADACHE: twice a QUART's." */
    private static void letsOfAHeadache() {
        lets(40, 99, 19, 19);
        lets(40, 99, 20, 20);
        lets(40, 99, 21, 20);
        lets(49, 0, 37, 37);
        lets(49, 0, 38, 38);
        lets(49, 0, 39, 38);
    }

    /** "SCANDAL: as VINTAGE, 5 times that, if AGE is above 9." */
    private static void letsOfAScandal() {
        lets(59, 0, 999, 10);
        lets(59, 9, 999, 19);
        lets(59, 10, 99, 99);
        lets(59, 10, 100, 100);
        lets(59, 10, 101, 100);
        lets(50, 99, 544, 544);
        lets(50, 99, 545, 545);
        lets(50, 99, 546, 545);
    }

    /** "LEAK: as DRUM ..". */
    private static void letsOfALeak() {
        lets(69, 99, 21, 21);
        lets(69, 99, 22, 22);
        lets(69, 99, 23, 22);
        lets(60, 0, 999, 119);
    }

    /** ".. but also if it isn't OPEN": no other KIND does so. */
    private static void onlyALeakLetsWhenNotOpen() {
        for (int kind = 0; kind < 7; kind++) {
            PeaSoup soup = still();
            soup.jar(10 * kind + 5, 5, 100);
            soup.hours(1);
            Due.is("FOG of KIND " + kind + ", not OPEN", soup.fog(5), kind == 6 ? 30 : 0);
            Due.is("its FILL", soup.ofJar(0, 3), kind == 6 ? 70 : 100);
            Due.is("its AGE", soup.ofJar(0, 4), 1);
            Due.is("not OPEN", soup.ofJar(0, 5), 0);
        }
    }

    /** "One SEES another one, if both are in one row, or in one column (or CELL)". */
    private static void seesInRowsAndColumns() {
        for (int one = 0; one < 16; one++) {
            PeaSoup soup = new PeaSoup();
            soup.person(one);
            soup.person(0);
            for (int other = 0; other < 16; other++) {
                soup.walk(1, other);
                boolean row = one / 4 == other / 4;
                boolean column = one % 4 == other % 4;
                Due.is(one + " and " + other, soup.sees(0, 1), row || column ? 1 : 0);
                Due.is(other + " and " + one, soup.sees(1, 0), row || column ? 1 : 0);
            }
        }
    }

    /** "FOG of their CELLS and of all between them, together .., is less than SIGHT." */
    private static void seesBelowSight() {
        int[][] ways = {{0, 1, 2, 3}, {12, 13, 14, 15}, {0, 4, 8, 12}, {3, 7, 11, 15}, {5, 6, 7}, {5, 9}, {10}};
        for (int[] way : ways) {
            for (int sight : new int[] {1, 2, 50, 999}) {
                for (int thick : way) {
                    PeaSoup soup = new PeaSoup();
                    soup.set(1, sight);
                    soup.person(way[0]);
                    soup.person(way[way.length - 1]);
                    soup.lay(thick, sight - 1);
                    Due.is("SIGHT less 1 in " + thick, soup.sees(0, 1), 1);
                    soup.lay(thick, sight);
                    Due.is("SIGHT in " + thick, soup.sees(0, 1), 0);
                }
            }
        }
        PeaSoup beside = new PeaSoup();
        beside.person(1);
        beside.person(2);
        beside.lay(0, 999);
        beside.lay(3, 999);
        beside.lay(5, 999);
        Due.is("FOG beside them doesn't count", beside.sees(0, 1), 1);
        PeaSoup most = new PeaSoup();
        most.set(1, 999);
        most.person(0);
        most.person(3);
        for (int cell = 0; cell < 4; cell++) {
            most.lay(cell, 999);
        }
        Due.is("four times 999", most.sees(0, 1), 0);
    }

    /** "(of one CELL once)". */
    private static void oneCellOnce() {
        PeaSoup soup = new PeaSoup();
        soup.person(9);
        soup.person(9);
        soup.lay(9, 49);
        Due.is("49 once", soup.sees(0, 1), 1);
        Due.is("both are SEEN", soup.seen(), 3);
        soup.lay(9, 50);
        Due.is("50", soup.sees(0, 1), 0);
        Due.is("neither is SEEN", soup.seen(), 0);
    }

    /** "FILL is less by what it LETS, FOG of its CELL more (held)". */
    private static void fogOfAJarIsHeld() {
        for (int fog = 988; fog <= 999; fog++) {
            PeaSoup soup = still();
            soup.lay(7, fog);
            soup.jar(0, 7, 100);
            soup.change(0, 3, 1);
            soup.hours(1);
            Due.is(fog + " and 10", soup.fog(7), Math.min(999, fog + 10));
            Due.is("FILL is 10 less", soup.ofJar(0, 3), 90);
        }
        PeaSoup two = still();
        two.lay(7, 985);
        two.jar(0, 7, 100);
        two.jar(0, 7, 7);
        two.change(0, 3, 1);
        two.change(1, 3, 1);
        two.hours(1);
        Due.is("held for both", two.fog(7), 999);
        Due.is("the first's FILL", two.ofJar(0, 3), 90);
        Due.is("the second's FILL", two.ofJar(1, 3), 0);
    }

    /** FILL "(0 to 999)": it ends at 0, and then nothing comes out. */
    private static void fillEnds() {
        PeaSoup soup = still();
        soup.jar(0, 0, 21);
        soup.change(0, 3, 1);
        int[] fills = {11, 1, 0, 0};
        int[] fogs = {10, 20, 21, 21};
        for (int i = 0; i < fills.length; i++) {
            Due.is("FOG of all CELLS", soup.hours(1), fogs[i]);
            Due.is("FILL", soup.ofJar(0, 3), fills[i]);
        }
        Due.is("an empty one stays OPEN", soup.ofJar(0, 5), 1);
        Due.is("and doesn't age", soup.ofJar(0, 4), 0);
    }

    /** "AGE is 1 more (held), if it isn't OPEN." */
    private static void ageIsHeld() {
        PeaSoup soup = new PeaSoup();
        soup.jar(20, 0, 0);
        soup.jar(20, 0, 0);
        soup.change(0, 2, 97);
        soup.change(1, 2, 97);
        soup.change(1, 3, 1);
        int[] ages = {98, 99, 99, 99};
        for (int age : ages) {
            soup.hours(1);
            Due.is("not OPEN", soup.ofJar(0, 4), age);
            Due.is("OPEN", soup.ofJar(1, 4), 97);
        }
    }

    /** "each CELL gives each NEXT one what the TEXT gives, but no more than a quarter (cut) of its FOG". */
    private static void noMoreThanAQuarter() {
        String[] texts = {"0", "9", "10", "11", "999", "0-1"};
        int[] given = {0, 9, 10, 10, 10, 0};
        for (int i = 0; i < texts.length; i++) {
            PeaSoup soup = new PeaSoup();
            Due.text(soup, 0, texts[i]);
            Due.text(soup, 1, "0");
            soup.lay(5, 40);
            Due.is("none is lost", soup.hours(1), 40);
            Due.is("what 5 has left with " + texts[i], soup.fog(5), 40 - 4 * given[i]);
            Due.is("what 6 has", soup.fog(6), given[i]);
        }
    }

    /** "a quarter (cut)". */
    private static void theQuarterIsCut() {
        int[][] rows = {{0, 0}, {1, 0}, {3, 0}, {4, 1}, {7, 1}, {8, 2}, {998, 249}, {999, 249}}; // FOG, its quarter
        for (int[] row : rows) {
            PeaSoup soup = new PeaSoup();
            Due.text(soup, 0, "999");
            Due.text(soup, 1, "0");
            soup.lay(5, row[0]);
            soup.hours(1);
            Due.is("a quarter of " + row[0], soup.fog(1), row[1]);
            Due.is("what is left", soup.fog(5), row[0] - 4 * row[1]);
        }
    }

    /** "(held at 999 then)": what comes to a CELL and what it gives are set off ahead of that. */
    private static void heldOnlyThen() {
        PeaSoup all = new PeaSoup();
        Due.text(all, 0, "999");
        Due.text(all, 1, "0");
        for (int cell = 0; cell < 16; cell++) {
            all.lay(cell, 999);
        }
        Due.is("each gives as much as it gets", all.hours(1), 16 * 999);
        int[][] rows = {{999, 499, 749}, {500, 999, 748}, {751, 994, 873}}; // FOG of 0, of 1 and 4, of 0 then
        for (int[] row : rows) {
            PeaSoup soup = new PeaSoup();
            Due.text(soup, 0, "999");
            Due.text(soup, 1, "0");
            soup.lay(0, row[0]);
            soup.lay(1, row[1]);
            soup.lay(4, row[1]);
            soup.hours(1);
            Due.is("0 with " + row[0] + ", beside " + row[1], soup.fog(0), row[2]);
        }
        int[] holds = {500, 501, 502, 503}; // with 2 * 249 more: 998, 999, and beyond
        for (int fog : holds) {
            PeaSoup soup = new PeaSoup();
            Due.text(soup, 0, "(f>900)*999");
            Due.text(soup, 1, "0");
            soup.lay(0, fog);
            soup.lay(1, 999);
            soup.lay(4, 999);
            soup.hours(1);
            Due.is(fog + " and 498", soup.fog(0), Math.min(999, fog + 498));
        }
    }

    /** "all at once, by FOG as it is then": behind what JARS let out, ahead of what drifts. */
    private static void allAtOnce() {
        PeaSoup soup = new PeaSoup();
        Due.text(soup, 0, "f");
        Due.text(soup, 1, "0");
        soup.jar(0, 5, 100);
        soup.change(0, 3, 1);
        soup.lay(5, 2);
        soup.lay(6, 8);
        soup.hours(1);
        Due.is("5: 12, less 4 times 3, and 2", soup.fog(5), 2);
        Due.is("6: 8, less 4 times 2, and 3", soup.fog(6), 3);
        Due.is("4: 3 from 5", soup.fog(4), 3);
        Due.is("7: 2 from 6, none of what comes to it from 5", soup.fog(7), 2);
    }

    /** "FOG is less by what the other TEXT gives, 0 at least." */
    private static void thinsToZero() {
        for (int fog = 8; fog <= 11; fog++) {
            PeaSoup soup = new PeaSoup();
            soup.lay(5, fog);
            Due.text(soup, 1, "10");
            soup.hours(1);
            Due.is(fog + " less 10", soup.fog(5), Math.max(0, fog - 10));
        }
        PeaSoup most = still();
        most.lay(5, 999);
        most.lay(6, 0);
        Due.text(most, 1, "9999");
        Due.is("999 less what is held at 999", most.hours(1), 0);
        PeaSoup below = still();
        below.lay(5, 990);
        Due.text(below, 1, "0-9");
        Due.is("less by what is held at 0", below.hours(1), 990);
    }

    /** "THINS, NAMES f FOG": each CELL's own, as it is behind the drift. */
    private static void thinsByFogAsItIsThen() {
        PeaSoup soup = new PeaSoup();
        Due.text(soup, 0, "5");
        Due.text(soup, 1, "f=20");
        soup.lay(0, 30);
        soup.hours(1);
        Due.is("0: 30 less twice 5, which is 20", soup.fog(0), 19);
        Due.is("1: 5", soup.fog(1), 5);
    }

    /** "h the rest of HOUR by 24": of the HOUR ahead of its end. */
    private static void hoursOfADay() {
        int[] hours = {0, 1, 22, 23, 24, 25, 47, 48, 49, 71, 72};
        for (int hour : hours) {
            PeaSoup soup = still();
            for (int i = 0; i < hour; i++) {
                soup.hours(1);
            }
            Due.text(soup, 1, "h");
            soup.lay(0, 100);
            Due.is("THINS at HOUR " + hour, soup.hours(1), 100 - hour % 24);
            PeaSoup drift = still();
            for (int i = 0; i < hour; i++) {
                drift.hours(1);
            }
            Due.text(drift, 0, "h");
            drift.lay(0, 200);
            drift.hours(1);
            Due.is("DRIFTS at HOUR " + hour, drift.fog(1), hour % 24);
        }
    }

    /** "HOUR (0 to 9999 ..)"; "STATE: HOUR would be above 9999." */
    private static void theLastHour() {
        int[] from = {9938, 9939, 9940, 9958, 9959, 9960, 9998, 9999};
        for (int hour : from) {
            for (int n : new int[] {1, 2, 39, 40, 41, 59, 60}) {
                PeaSoup soup = new PeaSoup();
                Cities.late(soup, hour);
                Due.is("HOUR", soup.count(2), hour);
                boolean late = hour + n > 9999;
                Due.is(n + " from " + hour, soup.hours(n) == Due.STATE ? 1 : 0, late ? 1 : 0);
                Due.is("HOUR then", soup.count(2), late ? hour : hour + n);
                Due.is("told(3)", soup.told(3), late ? 1 : 0);
            }
            for (int n : new int[] {1, 2, 39, 40}) {
                PeaSoup soup = new PeaSoup();
                Cities.late(soup, hour);
                boolean late = hour + n > 9999;
                Due.is(n + " by draws from " + hour, soup.loose(n) == Due.STATE ? 1 : 0, late ? 1 : 0);
                Due.is("HOUR then", soup.count(2), late ? hour : hour + n);
                Due.is("z moves only then", soup.count(11) == 77 ? 1 : 0, late ? 1 : 0);
            }
        }
    }
}
