/** Promises 18 to 30: what would be. */
public final class ThoughtsTest {
    public static void main(String[] args) {
        then();
        sees();
        seenAndFirst();
        hide();
        which();
        thickAndClear();
        lasts();
        way();
        lamp();
        mix();
        odds();
        nothingIsChanged();
        Due.end();
    }

    private static void then() {
        PeaSoup soup = new PeaSoup();
        soup.set(0, 4);
        soup.lay(5, 100);
        Due.is("then(0, 5, 0)", soup.then(0, 5, 0), 100);
        Due.is("then(1, 5, 0)", soup.then(1, 5, 0), 15);
        Due.is("then(1, 6, 0)", soup.then(1, 6, 0), 15);
        Due.is("then(1, 0, 1)", soup.then(1, 0, 1), 75);
        Due.is("then(60, 0, 1)", soup.then(60, 0, 1), 0);
        int[][] beyond = {{-1, 0, 0}, {61, 0, 0}, {0, -1, 0}, {0, 16, 0}, {0, 16, 1}, {0, 0, -1}, {0, 0, 2}};
        for (int[] b : beyond) {
            Due.is("then beyond", soup.then(b[0], b[1], b[2]), Due.BEYOND);
        }
        Due.is("told", soup.told(1), beyond.length);
    }

    private static void sees() {
        PeaSoup soup = new PeaSoup();
        soup.person(4);
        soup.person(7);
        soup.person(13);
        soup.person(5);
        soup.person(4);
        Due.is("in a row", soup.sees(0, 1), 1);
        Due.is("not in a row", soup.sees(0, 2), 0);
        Due.is("in a column", soup.sees(3, 2), 1);
        Due.is("in a CELL", soup.sees(0, 4), 1);
        soup.lay(4, 12);
        soup.lay(5, 12);
        soup.lay(6, 12);
        soup.lay(7, 13);
        Due.is("49 in all is less than 50", soup.sees(0, 1), 1);
        soup.lay(7, 14);
        Due.is("50 in all is not", soup.sees(0, 1), 0);
        Due.is("nor the other way", soup.sees(1, 0), 0);
        soup.lay(4, 49);
        Due.is("of one CELL once", soup.sees(4, 0), 1);
        soup.lay(4, 50);
        Due.is("FOG in one CELL", soup.sees(4, 0), 0);
        soup.lay(9, 38);
        Due.is("FOG between, in a column", soup.sees(2, 3), 0);
        soup.lay(9, 37);
        Due.is("less of it", soup.sees(2, 3), 1);
        int[][] beyond = {{0, 0}, {-1, 0}, {0, -1}, {5, 0}, {0, 5}};
        for (int[] b : beyond) {
            Due.is("sees(" + b[0] + ", " + b[1] + ")", soup.sees(b[0], b[1]), Due.BEYOND);
        }
    }

    private static void seenAndFirst() {
        PeaSoup soup = new PeaSoup();
        Due.is("first of none", soup.first(0), Due.BEYOND);
        soup.person(0);
        Due.is("one alone is not SEEN", soup.seen(), 0);
        Due.is("one alone, by 60", soup.first(0), Due.NONE);
        soup.person(3);
        soup.person(9);
        Due.is("two SEE one another", soup.seen(), 3);
        Due.is("FIRST now", soup.first(0), 0);
        Due.is("FIRST of one apart", soup.first(2), Due.NONE);
        Due.is("first(3)", soup.first(3), Due.BEYOND);
        Due.is("first(-1)", soup.first(-1), Due.BEYOND);
        soup.lay(1, 109);
        Due.is("SEEN through FOG", soup.seen(), 0);
        Due.is("109 is 49 behind 60", soup.first(1), 60);
        soup.lay(1, 110);
        Due.is("110 is not", soup.first(1), Due.NONE);
    }

    private static void hide() {
        PeaSoup soup = new PeaSoup();
        Due.is("hide none", soup.hide(0, 0), Due.BEYOND);
        soup.person(0);
        Due.is("one alone", soup.hide(0, 20), 0);
        soup.person(3);
        Due.is("without JARS", soup.hide(0, 1), Due.NONE);
        Due.is("for 0 HOURS", soup.hide(0, 0), 0);
        Due.is("for 21 HOURS", soup.hide(0, 21), Due.BEYOND);
        Due.is("for -1 HOURS", soup.hide(0, -1), Due.BEYOND);
        Due.text(soup, 0, "0");
        Due.text(soup, 1, "0");
        soup.set(1, 25);
        soup.jar(0, 1, 20);
        soup.jar(15, 2, 100);
        soup.jar(15, 1, 100);
        soup.jar(0, 5, 100);
        Due.is("25 in one HOUR: 10 and 15, of several the least", soup.hide(0, 1), 3);
        Due.is("and for 20", soup.hide(0, 20), 3);
        soup.change(3, 0, 0);
        soup.become(3, 48);
        Due.is("one lets 36", soup.hide(0, 20), 8);
        soup.change(3, 3, 1);
        Due.is("it is OPEN as it is", soup.hide(0, 20), 0);
        soup.change(3, 1, 5);
        Due.is("5 of it, and 15 is less than 25; and 10", soup.hide(1, 1), 3);
        soup.set(1, 999);
        Due.is("not by all", soup.hide(1, 1), Due.NONE);
        PeaSoup back = new PeaSoup();
        back.person(0);
        back.person(1);
        back.set(1, 5);
        back.jar(0, 0, 30);
        Due.text(back, 0, "0");
        Due.text(back, 1, "h*9");
        Due.is("10, then 11", back.hide(0, 2), 1);
        Due.is("10, 11, then 3 is less than 5", back.hide(0, 3), Due.NONE);
    }

    private static void which() {
        PeaSoup soup = new PeaSoup();
        Due.text(soup, 0, "0");
        Due.text(soup, 1, "0");
        soup.jar(0, 0, 100);
        soup.jar(0, 0, 100);
        soup.jar(0, 15, 100);
        soup.jar(60, 1, 100);
        soup.change(1, 3, 1);
        Due.is("a missing SHEET", soup.which(0, 0), Due.NONE);
        soup.sheet(0, 8, 16);
        soup.put(0, 0, 10);
        soup.put(0, 1, 30);
        Due.is("0 or 1, and 3 or not", soup.which(0, 0), 4);
        Due.is("the least", soup.which(0, 1), 1);
        soup.put(0, 15, 10);
        Due.is("2, too", soup.which(0, 1), 5);
        soup.put(0, 0, 20);
        Due.is("0 and 1 and 2", soup.which(0, 1), 7);
        Due.is("that, with 3 or not", soup.which(0, 0), 2);
        soup.put(0, 15, 11);
        Due.is("none", soup.which(0, 0), 0);
        Due.is("none is least", soup.which(0, 1), Due.NONE);
        soup.sheet(1, 32, 17);
        Due.is("17 numbers", soup.which(1, 0), Due.NONE);
        soup.sheet(1, 32, 15);
        Due.is("15 numbers", soup.which(1, 1), Due.NONE);
        int[][] beyond = {{-1, 0}, {4, 0}, {0, -1}, {0, 2}, {3, 2}};
        for (int[] b : beyond) {
            Due.is("which(" + b[0] + ", " + b[1] + ")", soup.which(b[0], b[1]), Due.BEYOND);
        }
    }

    private static void thickAndClear() {
        PeaSoup soup = new PeaSoup();
        Due.is("the least CELL", soup.thick(0, 0), 0);
        soup.lay(7, 30);
        soup.lay(9, 30);
        soup.lay(2, 29);
        Due.is("of several the least", soup.thick(0, 0), 7);
        Due.is("FOG there", soup.thick(0, 1), 30);
        Due.is("behind 10 HOURS", soup.thick(10, 1), 20);
        Due.is("behind 60 HOURS", soup.thick(60, 0), 0);
        int[][] beyond = {{-1, 0}, {61, 0}, {0, -1}, {0, 2}};
        for (int[] b : beyond) {
            Due.is("thick(" + b[0] + ", " + b[1] + ")", soup.thick(b[0], b[1]), Due.BEYOND);
        }
        Due.is("clear(30)", soup.clear(30), 0);
        Due.is("clear(29)", soup.clear(29), 1);
        Due.is("clear(0)", soup.clear(0), 30);
        soup.lay(0, 61);
        Due.is("clear(1)", soup.clear(1), 60);
        Due.is("clear(0) not by 60", soup.clear(0), Due.NONE);
        Due.is("clear(-1)", soup.clear(-1), Due.BEYOND);
        Due.is("clear(1000)", soup.clear(1000), Due.BEYOND);
    }

    private static void lasts() {
        PeaSoup soup = new PeaSoup();
        Due.is("lasts of none", soup.lasts(0), Due.BEYOND);
        soup.jar(0, 0, 0);
        soup.jar(0, 0, 1);
        soup.jar(0, 0, 600);
        soup.jar(0, 0, 601);
        soup.jar(60, 0, 43);
        Due.is("empty now", soup.lasts(0), 0);
        Due.is("not OPEN", soup.lasts(1), Due.NONE);
        for (int i = 1; i <= 3; i++) {
            soup.change(i, 3, 1);
        }
        Due.is("1", soup.lasts(1), 1);
        Due.is("600", soup.lasts(2), 60);
        Due.is("601", soup.lasts(3), Due.NONE);
        Due.is("a LEAK: 24, 19", soup.lasts(4), 2);
        Due.is("lasts(5)", soup.lasts(5), Due.BEYOND);
        Due.is("lasts(-1)", soup.lasts(-1), Due.BEYOND);
    }

    private static void way() {
        PeaSoup soup = new PeaSoup();
        Due.is("way of none", soup.way(0, 0), Due.BEYOND);
        soup.person(0);
        int[] steps = {0, 1, 2, 3, 1, 2, 3, 4, 2, 3, 4, 5, 3, 4, 5, 6};
        for (int cell = 0; cell < 16; cell++) {
            Due.is("alone to " + cell, soup.way(0, cell), steps[cell]);
        }
        soup.person(5);
        Due.is("5 sees row and column", soup.way(0, 15), Due.NONE);
        Due.is("where it is", soup.way(1, 5), 0);
        soup.lay(5, 50);
        Due.is("who stands in FOG sees none", soup.way(0, 15), 6);
        soup.lay(5, 0);
        soup.lay(4, 50);
        Due.is("through 4", soup.way(0, 8), 2);
        Due.is("to 12 by 4, 8", soup.way(0, 12), 3);
        Due.is("9 is seen", soup.way(0, 9), Due.NONE);
        Due.is("2 is behind 1, which is seen", soup.way(0, 2), Due.NONE);
        soup.lay(9, 50);
        Due.is("9 in FOG, and 13 behind it", soup.way(0, 15), 6);
        soup.lay(9, 0);
        soup.lay(13, 50);
        soup.lay(1, 50);
        soup.lay(6, 50);
        Due.is("3 by 1, 2", soup.way(0, 3), 3);
        Due.is("15 by 12, 13, 14", soup.way(0, 15), 6);
        Due.is("10 by 1, 2, 6", soup.way(0, 10), 4);
        Due.is("5, where the other one is", soup.way(0, 5), Due.NONE);
        soup.walk(0, 6);
        soup.lay(6, 0);
        Due.is("SEEN where it is, it may go", soup.way(0, 2), 1);
        int[][] beyond = {{-1, 0}, {2, 0}, {0, -1}, {0, 16}};
        for (int[] b : beyond) {
            Due.is("way(" + b[0] + ", " + b[1] + ")", soup.way(b[0], b[1]), Due.BEYOND);
        }
    }

    private static void lamp() {
        PeaSoup soup = new PeaSoup();
        soup.person(15);
        Due.is("3 sees 15", soup.lamp(0), 3);
        Due.is("one", soup.lamp(1), 1);
        soup.person(8);
        Due.is("11 and 12, of several the least", soup.lamp(0), 11);
        soup.person(8);
        soup.lay(11, 50);
        Due.is("12 sees three", soup.lamp(0), 12);
        Due.is("three", soup.lamp(1), 3);
        soup.lay(8, 50);
        Due.is("those in FOG are not SEEN", soup.lamp(1), 1);
        Due.is("15 from 3? 11 is between", soup.lamp(0), 12);
        PeaSoup dark = new PeaSoup();
        dark.person(9);
        dark.lay(9, 50);
        Due.is("not even from its own CELL", dark.lamp(1), 0);
        Due.is("the least then", dark.lamp(0), 0);
        dark.lay(9, 49);
        dark.lay(1, 1);
        dark.lay(5, 1);
        dark.lay(8, 1);
        Due.is("from its own CELL", dark.lamp(0), 9);
        Due.is("one", dark.lamp(1), 1);
        Due.is("lamp(2)", dark.lamp(2), Due.BEYOND);
        Due.is("lamp(-1)", dark.lamp(-1), Due.BEYOND);
    }

    private static void mix() {
        PeaSoup soup = new PeaSoup();
        Due.text(soup, 0, "0");
        Due.text(soup, 1, "0");
        soup.jar(0, 3, 100);
        soup.jar(15, 3, 100);
        soup.jar(40, 3, 100);
        soup.jar(0, 4, 100);
        soup.change(2, 3, 1);
        Due.is("0 is none, though one is OPEN", soup.mix(3, 0, 0), 0);
        Due.is("10", soup.mix(3, 10, 0), 1);
        Due.is("12 is nearer to 10", soup.mix(3, 12, 1), 10);
        Due.is("13 is nearer to 15", soup.mix(3, 13, 1), 15);
        Due.is("5 is as near to 0 as to 10", soup.mix(3, 5, 0), 0);
        Due.is("27 is nearer to 25", soup.mix(3, 27, 0), 3);
        Due.is("28 is nearer to 30", soup.mix(3, 28, 0), 5);
        Due.is("999", soup.mix(3, 999, 0), 7);
        Due.is("999", soup.mix(3, 999, 1), 45);
        Due.is("another CELL", soup.mix(5, 999, 0), 0);
        int[][] beyond = {{-1, 0, 0}, {16, 0, 0}, {0, -1, 0}, {0, 1000, 0}, {0, 0, -1}, {0, 0, 2}};
        for (int[] b : beyond) {
            Due.is("mix beyond", soup.mix(b[0], b[1], b[2]), Due.BEYOND);
        }
    }

    private static void odds() {
        PeaSoup soup = new PeaSoup();
        Due.is("odds of none", soup.odds(0, 0, 0), Due.BEYOND);
        soup.person(0);
        Due.is("alone", soup.odds(0, 60, 0), 1);
        Due.is("alone, by", soup.odds(0, 60, 1), 1);
        soup.person(0);
        Due.is("never", soup.odds(0, 0, 0), 0);
        Due.is("never, by", soup.odds(0, 0, 1), 1);
        Due.text(soup, 0, "0");
        soup.lay(0, 54);
        soup.set(0, 7);
        Due.is("now: always", soup.odds(0, 0, 0), 1);
        Due.is("54 less w+1 is 50 or more for WIND 0 to 3", soup.odds(0, 1, 0), 2);
        Due.is("by", soup.odds(0, 1, 1), 5);
        Due.is("behind two: WIND 0 and 1", soup.odds(1, 2, 0), 1);
        Due.is("by", soup.odds(1, 2, 1), 5);
        Due.is("behind four: WIND 0", soup.odds(1, 4, 0), 1);
        Due.is("by", soup.odds(1, 4, 1), 10);
        Due.is("behind five", soup.odds(1, 5, 0), 0);
        Due.is("by", soup.odds(1, 5, 1), 1);
        soup.lay(0, 58);
        Due.is("eight of ten", soup.odds(0, 1, 0), 4);
        soup.lay(0, 55);
        Due.is("five of ten", soup.odds(0, 1, 1), 2);
        soup.lay(0, 57);
        Due.is("seven of ten", soup.odds(0, 1, 0), 7);
        Due.is("WIND stays", soup.count(3), 7);
        int[][] beyond = {{-1, 0, 0}, {2, 0, 0}, {0, -1, 0}, {0, 61, 0}, {0, 0, -1}, {0, 0, 2}};
        for (int[] b : beyond) {
            Due.is("odds beyond", soup.odds(b[0], b[1], b[2]), Due.BEYOND);
        }
    }

    private static void nothingIsChanged() {
        PeaSoup soup = new PeaSoup();
        soup.set(0, 3);
        for (int i = 0; i < 6; i++) {
            soup.jar(11 * (i + 1), 2 * i, 100 + i);
            soup.person(3 * i);
            soup.lay(i, 60 * i);
        }
        soup.change(2, 3, 1);
        soup.sheet(0, 16, 16);
        soup.tell(9);
        soup.voice(3, 3, 3);
        String all = Due.all(soup);
        soup.then(60, 3, 0);
        soup.seen();
        soup.first(2);
        soup.hide(3, 20);
        soup.which(0, 0);
        soup.thick(30, 0);
        soup.clear(5);
        soup.lasts(2);
        soup.way(1, 14);
        soup.lamp(0);
        soup.mix(6, 300, 0);
        soup.odds(4, 60, 0);
        Due.is("all is only thought", all.equals(Due.all(soup)) ? 1 : 0, 1);
    }
}
