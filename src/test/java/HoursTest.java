/** Promises 16 and 17: hours. */
public final class HoursTest {
    public static void main(String[] args) {
        jarsInAnHour();
        fogIsHeld();
        driftAndThin();
        corners();
        bounds();
        draws();
        Due.end();
    }

    private static void jarsInAnHour() {
        PeaSoup soup = new PeaSoup();
        Due.text(soup, 1, "0");
        soup.jar(0, 0, 25);
        soup.jar(60, 5, 30);
        soup.jar(20, 10, 40);
        soup.change(0, 3, 1);
        soup.change(2, 2, 98);
        Due.is("an HOUR", soup.hours(1), 10 + 23);
        Due.is("JAR's FILL", soup.ofJar(0, 3), 15);
        Due.is("an OPEN one's AGE", soup.ofJar(0, 4), 0);
        Due.is("LEAK's FILL though not OPEN", soup.ofJar(1, 3), 7);
        Due.is("LEAK's AGE", soup.ofJar(1, 4), 1);
        Due.is("one not OPEN", soup.ofJar(2, 3), 40);
        Due.is("its AGE", soup.ofJar(2, 4), 99);
        Due.is("two HOURS more", soup.hours(2), 25 + 30);
        Due.is("JAR's FILL then", soup.ofJar(0, 3), 0);
        Due.is("AGE is held", soup.ofJar(2, 4), 99);
        soup.change(1, 1, 30);
        soup.change(1, 3, 1);
        soup.hours(1);
        Due.is("an OPEN LEAK's AGE", soup.ofJar(1, 4), 3);
        Due.is("an OPEN LEAK's FILL", soup.ofJar(1, 3), 7);
    }

    private static void fogIsHeld() {
        PeaSoup soup = new PeaSoup();
        Due.text(soup, 0, "0");
        Due.text(soup, 1, "0");
        soup.lay(3, 995);
        soup.jar(0, 3, 50);
        soup.change(0, 3, 1);
        Due.is("FOG is held", soup.hours(1), 999);
        Due.is("FILL is less all the same", soup.ofJar(0, 3), 40);
        Due.text(soup, 0, "999");
        soup.lay(2, 999);
        soup.lay(7, 999);
        soup.hours(1);
        Due.is("3 gave 249 to two, had 249 of two", soup.fog(3), 999);
        Due.is("2 gave 249 to three, had 249 of one", soup.fog(2), 999 - 498);
        PeaSoup full = new PeaSoup();
        Due.text(full, 0, "(f<999)*249");
        Due.text(full, 1, "0");
        full.lay(0, 999);
        full.lay(1, 998);
        full.lay(4, 998);
        Due.is("what 0 can't hold is lost", full.hours(1), 999 + 2 * 251 + 4 * 249);
        Due.is("0 is held", full.fog(0), 999);
        Due.is("5 has it of two", full.fog(5), 498);
    }

    private static void driftAndThin() {
        PeaSoup soup = new PeaSoup();
        soup.set(0, 4);
        soup.lay(5, 100);
        Due.is("f*w/20 is 20, to four; each is 5 less", soup.hours(1), 15 + 4 * 15);
        Due.is("fog 5", soup.fog(5), 15);
        Due.is("fog 1", soup.fog(1), 15);
        Due.is("fog 0", soup.fog(0), 0);
        PeaSoup quarter = new PeaSoup();
        quarter.set(0, 9);
        quarter.lay(5, 103);
        Due.is("46, but a quarter at most, 25", quarter.hours(1), 4 * 15);
        Due.is("3 left, and not below 0", quarter.fog(5), 0);
        PeaSoup once = new PeaSoup();
        Due.text(once, 0, "f/2");
        Due.text(once, 1, "0");
        once.lay(0, 40);
        once.lay(1, 80);
        once.hours(1);
        Due.is("all at once: 0", once.fog(0), 40 - 20 + 20);
        Due.is("all at once: 1", once.fog(1), 80 - 60 + 10);
        Due.is("all at once: 4", once.fog(4), 10);
        Due.is("all at once: 2", once.fog(2), 20);
        Due.is("all at once: 5", once.fog(5), 20);
        PeaSoup thin = new PeaSoup();
        Due.text(thin, 0, "5");
        Due.text(thin, 1, "f/2");
        thin.lay(0, 40);
        Due.is("THINS by FOG as it is then", thin.hours(1), 15 + 3 + 3);
    }

    private static void corners() {
        int[] next = {2, 3, 3, 2, 3, 4, 4, 3, 3, 4, 4, 3, 2, 3, 3, 2};
        for (int cell = 0; cell < 16; cell++) {
            PeaSoup soup = new PeaSoup();
            Due.text(soup, 0, "10");
            Due.text(soup, 1, "0");
            soup.lay(cell, 100);
            soup.hours(1);
            Due.is("what " + cell + " has left", soup.fog(cell), 100 - 10 * next[cell]);
            for (int other = 0; other < 16; other++) {
                int rows = Math.abs(cell / 4 - other / 4);
                int places = Math.abs(cell % 4 - other % 4);
                if (other != cell) {
                    Due.is(cell + " gives " + other, soup.fog(other), rows + places == 1 ? 10 : 0);
                }
            }
        }
    }

    private static void bounds() {
        PeaSoup soup = new PeaSoup();
        Due.is("hours(0)", soup.hours(0), Due.BEYOND);
        Due.is("hours(61)", soup.hours(61), Due.BEYOND);
        Due.is("hours(-1)", soup.hours(-1), Due.BEYOND);
        Due.is("loose(0)", soup.loose(0), Due.BEYOND);
        Due.is("loose(41)", soup.loose(41), Due.BEYOND);
        Due.is("loose(-1)", soup.loose(-1), Due.BEYOND);
        for (int i = 0; i < 166; i++) {
            soup.hours(60);
        }
        Due.is("HOUR", soup.count(2), 9960);
        Due.is("hours(40)", soup.hours(40), Due.STATE);
        Due.is("loose(40)", soup.loose(40), Due.STATE);
        Due.is("z stays", soup.count(11), 1);
        Due.is("hours(38)", soup.hours(38), 0);
        Due.is("hours(2)", soup.hours(2), Due.STATE);
        Due.is("loose(2)", soup.loose(2), Due.STATE);
        Due.is("loose(1)", soup.loose(1), 0);
        Due.is("HOUR at last", soup.count(2), 9999);
        PeaSoup plain = new PeaSoup();
        for (int i = 0; i < 166; i++) {
            plain.hours(60);
        }
        Due.is("to the last HOUR", plain.hours(39), 0);
        Due.is("HOUR at last", plain.count(2), 9999);
        Due.is("hours(1)", soup.hours(1), Due.STATE);
        Due.is("hours(61) at last", soup.hours(61), Due.BEYOND);
        soup.set(0, 0);
        soup.lay(0, 30);
        Due.is("thought goes on", soup.then(10, 0, 0), 20);
        Due.is("thought of 60", soup.clear(0), 30);
    }

    private static void draws() {
        PeaSoup alone = new PeaSoup();
        alone.lay(5, 999);
        Due.is("one HOUR by draws", alone.loose(1), 999 - 5 * 5);
        int z = 1 * 1103515245 + 12345;
        Due.is("one draw without PEOPLE", alone.count(11), z);
        Due.is("WIND", alone.count(3), (z >>> 8) % 10);
        PeaSoup one = new PeaSoup();
        one.person(3);
        one.loose(1);
        z = z * 1103515245 + 12345;
        Due.is("two draws with one of PEOPLE", one.count(11), z);
        Due.is("its CELL", one.at(0), (z >>> 8) / 8 % 16);
        PeaSoup soup = new PeaSoup();
        soup.seed(-77);
        soup.person(0);
        soup.person(1);
        soup.person(2);
        int[] where = {0, 1, 2};
        z = -77;
        int wind = 0;
        for (int i = 0; i < 5; i++) {
            z = z * 1103515245 + 12345;
            wind = (z >>> 8) % 10;
            z = z * 1103515245 + 12345;
            where[(z >>> 8) % 3] = (z >>> 8) / 8 % 16;
        }
        soup.loose(5);
        Due.is("z", soup.count(11), z);
        Due.is("WIND", soup.count(3), wind);
        for (int i = 0; i < 3; i++) {
            Due.is("at " + i, soup.at(i), where[i]);
        }
        Due.is("HOUR", soup.count(2), 5);
    }
}
