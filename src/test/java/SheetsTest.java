/** Promises 34 to 38: sheets. */
public final class SheetsTest {
    public static void main(String[] args) {
        sheets();
        puts();
        moves();
        fogs();
        judges();
        Due.end();
    }

    private static void sheets() {
        PeaSoup soup = new PeaSoup();
        int[] bits = {8, 16, 32};
        for (int i = 0; i < bits.length; i++) {
            Due.is("at most 40", soup.sheet(i, bits[i], 40), 1);
            Due.is("number 39", soup.put(i, 39, 1), 1);
            Due.is("number 40", soup.put(i, 40, 1), Due.BEYOND);
            Due.is("41 numbers", soup.sheet(i, bits[i], 41), Due.BEYOND);
            Due.is("-1 numbers", soup.sheet(i, bits[i], -1), Due.STATE);
            Due.is("it stays", soup.put(i, 39, 1), 1);
            Due.is("no numbers", soup.sheet(i, bits[i], 0), 1);
            Due.is("number 0 of none", soup.put(i, 0, 1), Due.BEYOND);
            Due.is("is there", soup.fogs(i), 0);
            Due.is("missing, n doesn't matter", soup.sheet(i, 0, i == 0 ? -1 : 99), 1);
            Due.is("is missing", soup.fogs(i), Due.NONE);
            Due.is("missing again", soup.sheet(i, 0, 0), 1);
        }
        int[][] beyond = {{-1, 8, 1}, {4, 8, 1}, {0, 7, 1}, {0, 24, 1}, {0, -8, 1}, {0, 64, 1}, {0, 7, -1}, {4, 8, -1},
            {4, 0, 0}};
        for (int[] b : beyond) {
            Due.is("sheet(" + b[0] + ", " + b[1] + ", " + b[2] + ")", soup.sheet(b[0], b[1], b[2]), Due.BEYOND);
        }
        soup.sheet(3, 16, 3);
        soup.put(3, 1, 5);
        soup.lay(1, 9);
        soup.sheet(3, 16, 3);
        soup.fogs(3);
        Due.is("all are 0 anew", soup.fog(1), 0);
    }

    private static void puts() {
        PeaSoup soup = new PeaSoup();
        Due.is("put(4, ..)", soup.put(4, 0, 0), Due.BEYOND);
        Due.is("put(-1, ..)", soup.put(-1, 0, 0), Due.BEYOND);
        Due.is("missing, ahead of the number", soup.put(0, 99, 0), Due.NONE);
        soup.sheet(0, 8, 2);
        soup.sheet(1, 16, 2);
        soup.sheet(2, 32, 2);
        Due.is("number -1", soup.put(0, -1, 0), Due.BEYOND);
        Due.is("number 2", soup.put(0, 2, 0), Due.BEYOND);
        Due.is("8 lowest bits", putAndFog(soup, 0, 256 + 77), 77);
        Due.is("8 lowest bits below 0", putAndFog(soup, 0, -256 + 9), 9);
        Due.is("8 bits, the highest is the sign", putAndFog(soup, 0, 200), -1);
        Due.is("127", putAndFog(soup, 0, 127), 127);
        Due.is("16 lowest bits", putAndFog(soup, 1, 65536 * 3 + 999), 999);
        Due.is("16 bits beyond FOG", putAndFog(soup, 1, 1000), -1);
        Due.is("16 bits, the highest is the sign", putAndFog(soup, 1, 65535), -1);
        Due.is("32 bits", putAndFog(soup, 2, 500), 500);
        Due.is("32 bits are all kept", putAndFog(soup, 2, 65536 + 5), -1);
        Due.is("32 bits below 0", putAndFog(soup, 2, -1), -1);
    }

    /** FOG that a number becomes; -1: it is none. */
    private static int putAndFog(PeaSoup soup, int sheet, int v) {
        Due.is("put", soup.put(sheet, 0, v), 1);
        return soup.fogs(sheet) == 0 ? -1 : soup.fog(0);
    }

    private static void moves() {
        PeaSoup soup = new PeaSoup();
        Due.is("no such SHEET", soup.move(4, 0, 0, 0, 0), Due.BEYOND);
        Due.is("no such other", soup.move(0, 0, -1, 0, 0), Due.BEYOND);
        Due.is("missing", soup.move(0, 0, 0, 0, 0), Due.NONE);
        soup.sheet(0, 16, 6);
        Due.is("the other is missing", soup.move(0, -1, 1, 0, 0), Due.NONE);
        Due.is("the one is missing", soup.move(1, -1, 0, 0, 0), Due.NONE);
        soup.sheet(1, 8, 6);
        Due.is("unlike bits, ahead of n", soup.move(0, 0, 1, 0, -1), Due.KIND);
        soup.sheet(1, 16, 4);
        int[][] beyond = {{0, 0, 1, 0, -1}, {0, -1, 1, 0, 0}, {0, 0, 1, -1, 0}, {0, 0, 1, 0, 5}, {0, 4, 1, 0, 3},
            {0, 0, 1, 2, 3}, {0, 7, 1, 0, 0}, {0, 0, 1, 5, 0}, {0, 1, 1, 0, Integer.MAX_VALUE},
            {0, Integer.MAX_VALUE, 1, 0, Integer.MAX_VALUE}, {0, Integer.MAX_VALUE, 1, 0, 1},
            {0, 0, 1, Integer.MAX_VALUE, 1}, {0, 0, 1, 0, Integer.MIN_VALUE}, {0, Integer.MIN_VALUE, 1, 0, 1}};
        for (int i = 0; i < beyond.length; i++) {
            int[] b = beyond[i];
            Due.is("move beyond, row " + i, soup.move(b[0], b[1], b[2], b[3], b[4]), Due.BEYOND);
        }
        Due.is("none, at the ends", soup.move(0, 6, 1, 4, 0), 0);
        for (int i = 0; i < 6; i++) {
            soup.put(0, i, 10 + i);
        }
        Due.is("four", soup.move(0, 2, 1, 0, 4), 4);
        Due.is("the other", fogRow(soup, 1, 4), 12131415);
        Due.is("up, as they all were", soup.move(0, 0, 0, 2, 4), 4);
        Due.is("the same, up", fogRow(soup, 0, 6) % 1000000000000L, 101110111213L);
        Due.is("down, as they all were", soup.move(0, 1, 0, 0, 5), 5);
        Due.is("the same, down", fogRow(soup, 0, 6), 111011121313L);
    }

    /** The numbers of a SHEET, read by FOG, two digits each. */
    private static long fogRow(PeaSoup soup, int sheet, int n) {
        soup.fogs(sheet);
        long row = 0;
        for (int i = 0; i < n; i++) {
            row = row * 100 + soup.fog(i);
        }
        return row;
    }

    private static void fogs() {
        PeaSoup soup = new PeaSoup();
        Due.is("fogs(4)", soup.fogs(4), Due.BEYOND);
        Due.is("fogs(-1)", soup.fogs(-1), Due.BEYOND);
        Due.is("missing", soup.fogs(0), Due.NONE);
        soup.sheet(0, 32, 40);
        for (int i = 0; i < 40; i++) {
            soup.put(0, i, 900 + i);
        }
        Due.is("as many as there are CELLS", soup.fogs(0), 16);
        Due.is("fog 15", soup.fog(15), 915);
        soup.put(0, 0, 0);
        soup.put(0, 2, 999);
        soup.put(0, 3, -1);
        Due.is("up to one below 0", soup.fogs(0), 3);
        Due.is("fog 0", soup.fog(0), 0);
        Due.is("fog 2", soup.fog(2), 999);
        Due.is("fog 3 stays", soup.fog(3), 903);
        soup.put(0, 0, 1000);
        Due.is("up to the first", soup.fogs(0), 0);
        Due.is("no ERROR", soup.told(1), 2);
        soup.sheet(0, 8, 2);
        Due.is("two", soup.fogs(0), 2);
        Due.is("fog 2 stays", soup.fog(2), 999);
        Due.is("fog 1", soup.fog(1), 0);
    }

    private static void judges() {
        PeaSoup soup = new PeaSoup();
        Due.is("judge(4)", soup.judge(4), Due.BEYOND);
        Due.is("judge(-1)", soup.judge(-1), Due.BEYOND);
        Due.is("missing", soup.judge(0), Due.NONE);
        soup.sheet(0, 16, 0);
        Due.is("none of none", soup.judge(0), -1);
        soup.jar(0, 0, 7);
        soup.jar(0, 0, 999);
        Due.is("all lack", soup.judge(0), 0);
        soup.sheet(0, 16, 2);
        soup.put(0, 0, 7);
        Due.is("the second isn't so", soup.judge(0), 1);
        soup.put(0, 1, 999);
        Due.is("all are", soup.judge(0), -1);
        soup.jar(0, 0, 0);
        Due.is("one lacks", soup.judge(0), 2);
        soup.sheet(1, 16, 4);
        soup.move(0, 0, 1, 0, 2);
        Due.is("one is too many", soup.judge(1), 3);
        soup.put(1, 0, 8);
        Due.is("the first", soup.judge(1), 0);
        soup.jar(0, 0, 3);
        soup.jar(0, 0, 3);
        soup.jar(0, 0, 3);
        soup.sheet(2, 32, 6);
        int[] fills = {7, 999, 0, 3, 3, 3};
        for (int i = 0; i < 6; i++) {
            soup.put(2, i, fills[i]);
        }
        Due.is("all six are", soup.judge(2), -1);
        soup.put(2, 5, 4);
        Due.is("the last isn't", soup.judge(2), 5);
        soup.sheet(3, 32, 40);
        soup.move(2, 0, 3, 0, 5);
        soup.put(3, 5, 3);
        Due.is("the seventh of 40 is too many", soup.judge(3), 6);
    }
}
