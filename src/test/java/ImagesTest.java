/** Promises 39 to 44: images, what is told, counts. */
public final class ImagesTest {
    public static void main(String[] args) {
        images();
        whatAnImageLeavesOut();
        tellAndCheck();
        counts();
        told();
        Due.end();
    }

    private static void images() {
        PeaSoup soup = new PeaSoup();
        Due.is("no IMAGE", soup.restore(), Due.NONE);
        Due.is("the first", soup.image(), 1);
        String empty = Due.all(soup);
        fill(soup);
        String full = Due.all(soup);
        Due.is("restore", soup.restore(), 0);
        Due.is("all is as it was", Due.all(soup).equals(empty) ? 1 : 0, 1);
        Due.is("JARS again", soup.jar(21, 3, 8), 0);
        Due.is("AGE at first", soup.ofJar(0, 4), 0);
        Due.is("not OPEN at first", soup.ofJar(0, 5), 0);
        Due.is("PEOPLE again", soup.person(3), 0);
        soup.restore();
        fill(soup);
        Due.is("the second", soup.image(), 2);
        soup.loose(9);
        Due.text(soup, 0, "1");
        Due.text(soup, 1, "1");
        soup.check();
        soup.walk(0, 15);
        soup.become(1, 0);
        soup.change(0, 3, 0);
        soup.set(1, 999);
        soup.jar(0, 0, 0);
        Due.is("restore to HOUR 7", soup.restore(), 7);
        Due.is("all is as it was", Due.all(soup).equals(full) ? 1 : 0, 1);
        soup.hours(60);
        soup.lay(0, 999);
        Due.is("the IMAGE stays", soup.restore(), 7);
        Due.is("all is as it was again", Due.all(soup).equals(full) ? 1 : 0, 1);
        Due.is("THE TAPE is as it was", soup.text(1), 1);
        Due.is("its TEXT", soup.law(1, 20, 3, 0), 23);
        Due.is("how often isn't taken back", soup.image(), 3);
    }

    private static void fill(PeaSoup soup) {
        Due.text(soup, 0, "f/3");
        Due.text(soup, 1, "w+2");
        soup.set(0, 2);
        soup.set(1, 70);
        soup.lay(4, 100);
        soup.jar(61, 4, 300);
        soup.jar(29, 2, 200);
        soup.change(0, 3, 1);
        soup.change(1, 2, 40);
        soup.person(6);
        soup.person(9);
        soup.seed(99);
        soup.hours(7);
        Due.feed(soup, "f+w");
        soup.tell(5);
        soup.tell(6);
    }

    private static void whatAnImageLeavesOut() {
        PeaSoup soup = new PeaSoup();
        soup.jar(40, 0, 5);
        soup.image();
        soup.sheet(0, 8, 1);
        soup.put(0, 0, 5);
        soup.voice(0, 0, 1);
        soup.fog(99);
        soup.lay(0, 5);
        soup.restore();
        Due.is("FOG", soup.fog(0), 0);
        Due.is("SHEETS stay", soup.judge(0), -1);
        Due.is("THE TRACE stays", soup.count(10), 2);
        Due.is("what is told stays", soup.told(1), 1);
    }

    private static void tellAndCheck() {
        PeaSoup soup = new PeaSoup();
        Due.is("none wait", soup.check(), 0);
        soup.lay(0, 3);
        int[] right = {2, 1, 0, 0};
        for (int i = 0; i < right.length; i++) {
            Due.is("tell", soup.tell(right[i]), i + 1);
        }
        Due.is("all are so", soup.check(), 0);
        Due.is("none wait then", soup.count(9), 0);
        soup.tell(2);
        soup.tell(1);
        soup.tell(1);
        soup.tell(7);
        Due.is("the third isn't", soup.check(), 3);
        Due.is("none wait then", soup.count(9), 0);
        soup.tell(3);
        Due.is("the first isn't", soup.check(), 1);
        Due.is("HOUR stays", soup.count(2), 0);
        Due.is("FOG stays", soup.fog(0), 3);
        soup.lay(0, 30);
        for (int i = 0; i < 20; i++) {
            Due.is("tell", soup.tell(i == 19 ? Integer.MIN_VALUE : 29 - i), i + 1);
        }
        Due.is("20 wait", soup.tell(0), Due.FULL);
        Due.is("the last isn't", soup.check(), 20);
        Due.is("one waits again", soup.tell(29), 1);
        Due.is("so it is", soup.check(), 0);
    }

    private static void counts() {
        PeaSoup soup = new PeaSoup();
        fill(soup);
        soup.change(1, 3, 1);
        soup.voice(0, 3, 2);
        int fog = 0;
        for (int cell = 0; cell < 16; cell++) {
            fog += soup.fog(cell);
        }
        int[] due = {2, 2, 7, 2, 70, fog, soup.ofJar(0, 3) + soup.ofJar(1, 3), 3, 3, 2, 9, 99};
        for (int what = 0; what < due.length; what++) {
            Due.is("count(" + what + ")", soup.count(what), due[what]);
        }
        soup.change(0, 3, 0);
        Due.is("OPEN as a set", soup.count(7), 2);
        Due.is("count(12)", soup.count(12), Due.BEYOND);
        Due.is("count(-1)", soup.count(-1), Due.BEYOND);
    }

    private static void told() {
        PeaSoup soup = new PeaSoup();
        soup.fog(16);
        soup.restore();
        soup.trace(0);
        soup.sheet(0, 8, -1);
        for (int i = 0; i < 8; i++) {
            soup.person(0);
        }
        soup.jar(0, 0, 0);
        soup.as(0, 1);
        soup.as(0, 2);
        soup.as(0, 3);
        int[] due = {1, 2, 1, 2, 3};
        for (int k = 1; k <= 5; k++) {
            Due.is("told(" + k + ")", soup.told(k), due[k - 1]);
        }
        Due.is("told(0)", soup.told(0), Due.BEYOND);
        Due.is("told(6)", soup.told(6), Due.BEYOND);
        Due.is("told(-1)", soup.told(-1), Due.BEYOND);
        Due.is("counted, too", soup.told(1), 4);
        Due.text(soup, 0, "(");
        Due.is("a FAULT is no ERROR", soup.told(1) + soup.told(2) + soup.told(3) + soup.told(4) + soup.told(5), 12);
    }
}
