/** Promises 1 to 12: the city, jars, people. */
public final class CityTest {
    public static void main(String[] args) {
        newObject();
        layAndFog();
        setWindAndSight();
        jarsOfEachKind();
        letsOfEachKind();
        changes();
        becomesAndAs();
        people();
        Due.end();
    }

    private static void newObject() {
        PeaSoup soup = new PeaSoup();
        int[] atFirst = {0, 0, 0, 0, 50, 0, 0, 0, 0, 0, 0, 1};
        for (int what = 0; what < atFirst.length; what++) {
            Due.is("new: count(" + what + ")", soup.count(what), atFirst[what]);
        }
        for (int cell = 0; cell < 16; cell++) {
            Due.is("new: fog(" + cell + ")", soup.fog(cell), 0);
        }
        for (int k = 1; k <= 5; k++) {
            Due.is("new: told(" + k + ")", soup.told(k), 0);
        }
        for (int sheet = 0; sheet < 4; sheet++) {
            Due.is("new: sheet " + sheet + " is missing", soup.judge(sheet), Due.NONE);
        }
        Due.is("new: no IMAGE", soup.restore(), Due.NONE);
        Due.is("new: no JAR", soup.ofJar(0, 0), Due.BEYOND);
        Due.is("new: no PERSON", soup.at(0), Due.BEYOND);
    }

    private static void layAndFog() {
        PeaSoup soup = new PeaSoup();
        Due.is("lay 0 at most", soup.lay(0, 999), 0);
        Due.is("lay: what it was", soup.lay(0, 0), 999);
        Due.is("lay 15", soup.lay(15, 7), 0);
        Due.is("fog 15", soup.fog(15), 7);
        Due.is("lay beyond cells", soup.lay(16, 1), Due.BEYOND);
        Due.is("lay below cells", soup.lay(-1, 1), Due.BEYOND);
        Due.is("lay too much", soup.lay(15, 1000), Due.BEYOND);
        Due.is("lay below 0", soup.lay(15, -1), Due.BEYOND);
        Due.is("fog 15 stays", soup.fog(15), 7);
        Due.is("fog(-1)", soup.fog(-1), Due.BEYOND);
        Due.is("fog(16)", soup.fog(16), Due.BEYOND);
        Due.is("told", soup.told(1), 6);
    }

    private static void setWindAndSight() {
        PeaSoup soup = new PeaSoup();
        Due.is("WIND 9", soup.set(0, 9), 0);
        Due.is("WIND 10", soup.set(0, 10), Due.BEYOND);
        Due.is("WIND -1", soup.set(0, -1), Due.BEYOND);
        Due.is("WIND was 9", soup.set(0, 0), 9);
        Due.is("SIGHT 999", soup.set(1, 999), 50);
        Due.is("SIGHT 1000", soup.set(1, 1000), Due.BEYOND);
        Due.is("SIGHT 0", soup.set(1, 0), Due.BEYOND);
        Due.is("SIGHT was 999", soup.set(1, 1), 999);
        Due.is("set(2, 1)", soup.set(2, 1), Due.BEYOND);
        Due.is("set(-1, 1)", soup.set(-1, 1), Due.BEYOND);
        Due.is("SIGHT", soup.count(4), 1);
    }

    private static void jarsOfEachKind() {
        PeaSoup soup = new PeaSoup();
        Due.is("km -1", soup.jar(-1, 0, 0), Due.BEYOND);
        Due.is("km 70", soup.jar(70, 0, 0), Due.BEYOND);
        Due.is("cell -1", soup.jar(0, -1, 0), Due.BEYOND);
        Due.is("fill -1", soup.jar(0, 0, -1), Due.BEYOND);
        Due.is("none was made", soup.count(0), 0);
        Due.is("first", soup.jar(69, 15, 999), 0);
        int[] of = {6, 9, 15, 999, 0, 0, 119};
        for (int what = 0; what < of.length; what++) {
            Due.is("ofJar(0, " + what + ")", soup.ofJar(0, what), of[what]);
        }
        Due.is("ofJar(0, 7)", soup.ofJar(0, 7), Due.BEYOND);
        Due.is("ofJar(0, -1)", soup.ofJar(0, -1), Due.BEYOND);
        Due.is("ofJar(1, 0)", soup.ofJar(1, 0), Due.BEYOND);
        Due.is("ofJar(-1, 0)", soup.ofJar(-1, 0), Due.BEYOND);
        for (int i = 1; i < 6; i++) {
            Due.is("jar " + i, soup.jar(0, 0, 0), i);
        }
        Due.is("seventh", soup.jar(0, 0, 0), Due.FULL);
        Due.is("seventh, and beyond", soup.jar(0, 0, 1000), Due.BEYOND);
        Due.is("six", soup.count(0), 6);
    }

    private static void letsOfEachKind() {
        PeaSoup soup = new PeaSoup();
        soup.jar(0, 0, 999);
        int[][] rows = { // km, FILL, AGE, LETS
            {9, 999, 99, 10}, {9, 9, 0, 9}, {0, 0, 0, 0},
            {10, 999, 5, 10}, {19, 999, 5, 19}, {19, 18, 5, 18},
            {29, 999, 0, 10}, {20, 999, 99, 109}, {25, 50, 41, 50},
            {39, 999, 9, 119}, {30, 19, 0, 19}, {30, 22, 0, 22}, {30, 23, 0, 22}, {30, 0, 0, 0},
            {40, 999, 0, 20}, {49, 999, 0, 38}, {49, 37, 0, 37}, {41, 10, 0, 10},
            {57, 999, 9, 19}, {57, 999, 10, 100}, {57, 999, 99, 545}, {57, 500, 99, 500},
            {60, 999, 0, 119}, {60, 5, 0, 5},
        };
        for (int[] row : rows) {
            soup.become(0, row[0]);
            soup.change(0, 1, row[1]);
            soup.change(0, 2, row[2]);
            for (int open = 0; open <= 1; open++) {
                soup.change(0, 3, open);
                Due.is("LETS of km " + row[0] + ", FILL " + row[1] + ", AGE " + row[2], soup.ofJar(0, 6), row[3]);
            }
        }
    }

    private static void changes() {
        PeaSoup soup = new PeaSoup();
        soup.jar(0, 3, 44);
        Due.is("CELL", soup.change(0, 0, 15), 3);
        Due.is("CELL was 15", soup.change(0, 0, 0), 15);
        Due.is("FILL", soup.change(0, 1, 999), 44);
        Due.is("FILL was 999", soup.change(0, 1, 0), 999);
        Due.is("AGE", soup.change(0, 2, 99), 0);
        Due.is("AGE was 99", soup.change(0, 2, 1), 99);
        Due.is("OPEN", soup.change(0, 3, 1), 0);
        Due.is("OPEN was 1", soup.change(0, 3, 1), 1);
        int[][] beyond = {{0, -1, 0}, {0, 4, 0}, {0, 0, 16}, {0, 0, -1}, {0, 1, 1000}, {0, 1, -1},
            {0, 2, 100}, {0, 2, -1}, {0, 3, 2}, {0, 3, -1}, {1, 0, 0}, {-1, 0, 0}};
        String all = Due.all(soup);
        for (int i = 0; i < beyond.length; i++) {
            int[] b = beyond[i];
            String call = "change(" + b[0] + ", " + b[1] + ", " + b[2] + ")";
            Due.error(soup, call, i, all, soup.change(b[0], b[1], b[2]), Due.BEYOND);
        }
    }

    private static void becomesAndAs() {
        PeaSoup soup = new PeaSoup();
        soup.jar(31, 5, 70);
        soup.change(0, 2, 8);
        soup.change(0, 3, 1);
        Due.is("become LEAK", soup.become(0, 64), 3);
        Due.is("m", soup.ofJar(0, 1), 4);
        Due.is("CELL stays", soup.ofJar(0, 2), 5);
        Due.is("FILL stays", soup.ofJar(0, 3), 70);
        Due.is("AGE stays", soup.ofJar(0, 4), 8);
        Due.is("OPEN stays", soup.ofJar(0, 5), 1);
        Due.is("become(0, 70)", soup.become(0, 70), Due.BEYOND);
        Due.is("become(0, -1)", soup.become(0, -1), Due.BEYOND);
        Due.is("become(1, 0)", soup.become(1, 0), Due.BEYOND);
        Due.is("become(-1, 0)", soup.become(-1, 0), Due.BEYOND);
        Due.is("KIND stays", soup.ofJar(0, 0), 6);
        int[] above = {1, 3, 5, 9, 19, 37, 73}; // the KINDS that each KIND is of, as a set
        for (int kind = 0; kind < 7; kind++) {
            soup.become(0, 10 * kind + 2);
            for (int top = 0; top < 7; top++) {
                boolean is = (above[kind] >> top & 1) == 1;
                Due.is("KIND " + kind + " as " + top, soup.as(0, top), is ? 2 : Due.KIND);
            }
        }
        Due.is("as(0, 7)", soup.as(0, 7), Due.BEYOND);
        Due.is("as(0, -1)", soup.as(0, -1), Due.BEYOND);
        Due.is("as(1, 0)", soup.as(1, 0), Due.BEYOND);
        Due.is("as(-1, 0)", soup.as(-1, 0), Due.BEYOND);
    }

    private static void people() {
        PeaSoup soup = new PeaSoup();
        Due.is("person(-1)", soup.person(-1), Due.BEYOND);
        Due.is("at none", soup.at(0), Due.BEYOND);
        for (int i = 0; i < 6; i++) {
            Due.is("person " + i, soup.person(15 - i), i);
        }
        Due.is("seventh", soup.person(0), Due.FULL);
        Due.is("seventh, and beyond", soup.person(16), Due.BEYOND);
        Due.is("at(5)", soup.at(5), 10);
        Due.is("at(6)", soup.at(6), Due.BEYOND);
        Due.is("at(-1)", soup.at(-1), Due.BEYOND);
        Due.is("walk", soup.walk(5, 0), 10);
        Due.is("at(5) then", soup.at(5), 0);
        Due.is("walk(5, 16)", soup.walk(5, 16), Due.BEYOND);
        Due.is("walk(5, -1)", soup.walk(5, -1), Due.BEYOND);
        Due.is("walk(6, 0)", soup.walk(6, 0), Due.BEYOND);
        Due.is("walk(-1, 0)", soup.walk(-1, 0), Due.BEYOND);
        Due.is("walk where it is", soup.walk(5, 0), 0);
    }
}
