/** Cities that the tests of bounds start from. */
final class Cities {
    private Cities() {
    }

    /** Nothing but what is there at first. */
    static void fresh(PeaSoup soup) {
    }

    /**
     * Two JARS (a LEAK and a QUART), two PEOPLE in one row, TEXTS, 3 bytes of
     * THE TAPE, three numbers that wait (as FOG will be), a TRACE, an IMAGE of
     * another state, SHEETS of 8, 16, 32 bits (16, 40, 5 numbers), one missing.
     */
    static void some(PeaSoup soup) {
        soup.lay(3, 77);
        soup.set(0, 5);
        soup.jar(21, 3, 30);
        soup.image();
        soup.become(0, 64);
        soup.jar(18, 9, 500);
        soup.change(1, 3, 1);
        soup.change(1, 2, 12);
        soup.person(4);
        soup.person(6);
        Due.text(soup, 0, "f/9+w");
        Due.text(soup, 1, "w/2+h");
        soup.hours(3);
        soup.voice(1, 3, 6);
        soup.seed(4321);
        Due.feed(soup, "f*3");
        for (int n = 1; n <= 3; n++) {
            soup.tell(soup.then(n, 0, 1));
        }
        soup.sheet(0, 8, 16);
        soup.sheet(1, 16, 40);
        soup.sheet(2, 32, 5);
        for (int i = 0; i < 5; i++) {
            soup.put(0, 3 * i, 20 + i);
            soup.put(1, 2 * i, 300 + i);
            soup.put(2, i, 7 * i);
        }
    }

    /** As many JARS, PEOPLE, bytes of THE TAPE and numbers that wait as there can be. */
    static void full(PeaSoup soup) {
        soup.set(0, 2);
        for (int i = 0; i < 6; i++) {
            soup.jar(10 * i + i, i, 100 * i);
            soup.person(2 * i);
            soup.lay(i, 20 * i);
        }
        soup.image();
        soup.change(2, 3, 1);
        Due.feed(soup, "f+f+f+f+f+f+f+f+f+f+f+f+f+f+f+f+f+f+f+f+f+f+f+f+99");
        for (int n = 1; n <= 20; n++) {
            soup.tell(soup.then(n, 0, 1));
        }
        soup.sheet(0, 16, 6);
    }

    /** HOUR is n; there is some FOG then, one JAR, OPEN, and two PEOPLE. */
    static void late(PeaSoup soup, int n) {
        for (int i = 0; i < n / 60; i++) {
            soup.hours(60);
        }
        if (n % 60 > 0) {
            soup.hours(n % 60);
        }
        soup.lay(5, 100);
        soup.jar(0, 0, 100);
        soup.change(0, 3, 1);
        soup.person(4);
        soup.person(7);
        soup.seed(77);
    }
}
