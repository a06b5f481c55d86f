/** Term 4 and promises 34 to 44: each sentence of the document that names a bound has a test here. */
public final class SheetBoundsTest {
    private static final int LEAST = Integer.MIN_VALUE;
    private static final int MOST = Integer.MAX_VALUE;

    public static void main(String[] args) {
        missingAtFirst();
        fortyNumbersAtMost();
        missingWhateverN();
        allAreZero();
        eightBits();
        sixteenBits();
        thirtyTwoBits();
        eachNumberByItself();
        movesAsTheyAllWere();
        movesOfNone();
        movesOfAll();
        fogsUpToTheFirst();
        fogsUpToTheLastCell();
        judgesOneThatLacks();
        judgesOneTooMany();
        judgesBits();
        howOftenAnImageWasMade();
        whatAnImageKeeps();
        whatAnImageLeaves();
        anImageInPlaceOfOneAhead();
        twentyWait();
        checksEachPlace();
        checkUsesThemUp();
        countsOfAll();
        toldCountsActs();
        Due.end();
    }

    /** "SHEETS 0 .. 3 .., or missing (as at first)." */
    private static void missingAtFirst() {
        PeaSoup soup = new PeaSoup();
        for (int sheet = 0; sheet < 4; sheet++) {
            Due.is("put", soup.put(sheet, 0, 0), Due.NONE);
            Due.is("move", soup.move(sheet, 0, sheet, 0, 0), Due.NONE);
            Due.is("fogs", soup.fogs(sheet), Due.NONE);
            Due.is("judge", soup.judge(sheet), Due.NONE);
            Due.is("which", soup.which(sheet, 0), Due.NONE);
        }
        for (int sheet : new int[] {-1, 4, LEAST, MOST}) {
            Due.is("put", soup.put(sheet, 0, 0), Due.BEYOND);
            Due.is("move", soup.move(sheet, 0, 0, 0, 0), Due.BEYOND);
            Due.is("move", soup.move(0, 0, sheet, 0, 0), Due.BEYOND);
            Due.is("fogs", soup.fogs(sheet), Due.BEYOND);
            Due.is("judge", soup.judge(sheet), Due.BEYOND);
            Due.is("which", soup.which(sheet, 0), Due.BEYOND);
            Due.is("sheet", soup.sheet(sheet, 8, 1), Due.BEYOND);
        }
    }

    /** "rows of 8, 16, 32 bits, at most 40 numbers"; "STATE: n is below 0 (ahead of BEYOND of n)." */
    private static void fortyNumbersAtMost() {
        PeaSoup soup = new PeaSoup();
        for (int sheet = 0; sheet < 4; sheet++) {
            for (int bits = 8; bits <= 32; bits *= 2) {
                for (int n : new int[] {0, 1, 39, 40}) {
                    Due.is(n + " numbers", soup.sheet(sheet, bits, n), 1);
                    Due.is("the last", soup.put(sheet, n - 1, 5), n == 0 ? Due.BEYOND : 1);
                    Due.is("one behind it", soup.put(sheet, n, 5), Due.BEYOND);
                    Due.is("one ahead of all", soup.put(sheet, -1, 5), Due.BEYOND);
                }
                Due.is("41 numbers", soup.sheet(sheet, bits, 41), Due.BEYOND);
                Due.is("-1 numbers", soup.sheet(sheet, bits, -1), Due.STATE);
                Due.is("40 as ahead", soup.put(sheet, 39, 5), 1);
            }
        }
    }

    /** "0: it is missing, n doesn't matter". */
    private static void missingWhateverN() {
        for (int n : new int[] {0, 1, 40, 41, -1, LEAST, MOST}) {
            PeaSoup soup = new PeaSoup();
            soup.sheet(1, 16, 3);
            Due.is("missing with " + n, soup.sheet(1, 0, n), 1);
            Due.is("it is", soup.fogs(1), Due.NONE);
            Due.is("missing again", soup.sheet(1, 0, n), 1);
            Due.is("no STATE", soup.told(3) + soup.told(1), 0);
            Due.is("there anew", soup.sheet(1, 16, 3), 1);
            Due.is("with three", soup.fogs(1), 3);
        }
    }

    /** "A SHEET has n numbers, all 0": what stood there is gone. */
    private static void allAreZero() {
        PeaSoup soup = new PeaSoup();
        soup.sheet(0, 32, 40);
        for (int i = 0; i < 40; i++) {
            soup.put(0, i, 7);
        }
        soup.sheet(0, 32, 2);
        soup.sheet(0, 32, 40);
        for (int from = 0; from < 40; from += 16) {
            int n = Math.min(16, 40 - from);
            soup.sheet(1, 32, 16);
            for (int i = 0; i < 16; i++) {
                soup.put(1, i, 9);
            }
            soup.move(0, from, 1, 0, n);
            soup.fogs(1);
            Due.is("numbers from " + from + " on", soup.count(5), 9 * (16 - n));
        }
    }

    /** FOG that v, put into a SHEET, becomes; -1: it is none. */
    private static int asFog(int bits, int v) {
        PeaSoup soup = new PeaSoup();
        soup.sheet(3, bits, 1);
        Due.is("put", soup.put(3, 0, v), 1);
        return soup.fogs(3) == 1 ? soup.fog(0) : -1;
    }

    /** "becomes v (its lowest bits)": of 8, the highest being the sign, as Java's byte has it. */
    private static void eightBits() {
        int[][] rows = {{0, 0}, {1, 1}, {127, 127}, {128, -1}, {200, -1}, {255, -1}, {256, 0}, {257, 1}, {383, 127},
            {384, -1}, {999, -1}, {1000, -1}, {1024, 0}, {-1, -1}, {-128, -1}, {-129, 127}, {-256, 0}, {-255, 1},
            {MOST, -1}, {LEAST, 0}, {65536 + 77, 77}};
        for (int[] row : rows) {
            Due.is(row[0] + " in 8 bits", asFog(8, row[0]), row[1]);
        }
    }

    /** The same of 16 bits. */
    private static void sixteenBits() {
        int[][] rows = {{0, 0}, {255, 255}, {256, 256}, {999, 999}, {1000, -1}, {32767, -1}, {32768, -1}, {65535, -1},
            {65536, 0}, {65536 + 999, 999}, {65536 + 1000, -1}, {-1, -1}, {-65536, 0}, {-65535, 1}, {-64537, 999},
            {-64536, -1}, {MOST, -1}, {LEAST, 0}};
        for (int[] row : rows) {
            Due.is(row[0] + " in 16 bits", asFog(16, row[0]), row[1]);
        }
    }

    /** The same of 32 bits, which are all. */
    private static void thirtyTwoBits() {
        int[][] rows = {{0, 0}, {999, 999}, {1000, -1}, {65536, -1}, {65536 + 5, -1}, {256 + 5, 261}, {-1, -1},
            {MOST, -1}, {LEAST, -1}};
        for (int[] row : rows) {
            Due.is(row[0] + " in 32 bits", asFog(32, row[0]), row[1]);
        }
    }

    /** "Number i of a SHEET becomes v": no other one, and of no other SHEET. */
    private static void eachNumberByItself() {
        PeaSoup soup = new PeaSoup();
        for (int sheet = 0; sheet < 4; sheet++) {
            soup.sheet(sheet, 16, 16);
        }
        for (int sheet = 0; sheet < 4; sheet++) {
            soup.put(sheet, 5 * sheet, 100 + sheet);
        }
        for (int sheet = 0; sheet < 4; sheet++) {
            Due.is("fogs", soup.fogs(sheet), 16);
            Due.is("its number", soup.fog(5 * sheet), 100 + sheet);
            Due.is("all of them", soup.count(5), 100 + sheet);
        }
    }

    /** A SHEET of n numbers 1, 2, .. */
    private static PeaSoup row(int n) {
        PeaSoup soup = new PeaSoup();
        soup.sheet(0, 16, n);
        for (int i = 0; i < n; i++) {
            soup.put(0, i, i + 1);
        }
        return soup;
    }

    /** "come to another one (or the same) .., as they all were: n." */
    private static void movesAsTheyAllWere() {
        for (int i = 0; i <= 12; i++) {
            for (int j = 0; j <= 12; j++) {
                PeaSoup soup = row(16);
                Due.is("move", soup.move(0, i, 0, j, 4), 4);
                soup.fogs(0);
                for (int cell = 0; cell < 16; cell++) {
                    boolean moved = cell >= j && cell < j + 4;
                    Due.is("4 from " + i + " to " + j + ": " + cell, soup.fog(cell), 1 + (moved ? cell - j + i : cell));
                }
            }
        }
        PeaSoup two = row(4);
        two.sheet(1, 16, 16);
        Due.is("to another", two.move(0, 0, 1, 12, 4), 4);
        two.fogs(1);
        Due.is("the first of them", two.fog(12), 1);
        Due.is("the last of them", two.fog(15), 4);
        Due.is("no others", two.count(5), 10);
        two.put(0, 0, 50);
        two.fogs(1);
        Due.is("they are copies", two.fog(12), 1);
        two.fogs(0);
        Due.is("those that came stay where they were, too", two.fog(3), 4);
    }

    /** n of 0 moves none, also at the ends, and of SHEETS without numbers. */
    private static void movesOfNone() {
        PeaSoup soup = row(16);
        for (int at : new int[] {0, 1, 15, 16}) {
            Due.is("none from " + at, soup.move(0, at, 0, 0, 0), 0);
            Due.is("none to " + at, soup.move(0, 0, 0, at, 0), 0);
        }
        Due.is("none from 17", soup.move(0, 17, 0, 0, 0), Due.BEYOND);
        Due.is("none to 17", soup.move(0, 0, 0, 17, 0), Due.BEYOND);
        Due.is("none from -1", soup.move(0, -1, 0, 0, 0), Due.BEYOND);
        Due.is("none to -1", soup.move(0, 0, 0, -1, 0), Due.BEYOND);
        soup.fogs(0);
        Due.is("all as they were", soup.count(5), 136);
        soup.sheet(1, 16, 0);
        Due.is("of none", soup.move(1, 0, 1, 0, 0), 0);
        Due.is("one of none", soup.move(1, 0, 0, 0, 1), Due.BEYOND);
        Due.is("one to none", soup.move(0, 0, 1, 0, 1), Due.BEYOND);
        Due.is("none of none, from 1", soup.move(1, 1, 0, 0, 0), Due.BEYOND);
    }

    /** All 40 can be moved, and no more. */
    private static void movesOfAll() {
        PeaSoup soup = row(40);
        soup.sheet(1, 16, 40);
        Due.is("41", soup.move(0, 0, 1, 0, 41), Due.BEYOND);
        Due.is("40 from 1", soup.move(0, 1, 1, 0, 40), Due.BEYOND);
        Due.is("40 to 1", soup.move(0, 0, 1, 1, 40), Due.BEYOND);
        Due.is("40", soup.move(0, 0, 1, 0, 40), 40);
        Due.is("the last 16 of them to the first places", soup.move(1, 24, 1, 0, 16), 16);
        soup.fogs(1);
        Due.is("number 24 was 25", soup.fog(0), 25);
        Due.is("number 39 was 40", soup.fog(15), 40);
        soup.sheet(2, 16, 39);
        Due.is("40 to 39", soup.move(0, 0, 2, 0, 40), Due.BEYOND);
        Due.is("39 to 39", soup.move(0, 1, 2, 0, 39), 39);
        Due.is("40 of 39", soup.move(2, 0, 0, 0, 40), Due.BEYOND);
    }

    /** fogs: "how many, up to the first that is not 0 to 999 (no ERROR then)". */
    private static void fogsUpToTheFirst() {
        for (int wrong : new int[] {-1, 1000, LEAST, MOST}) {
            for (int at = 0; at < 16; at++) {
                PeaSoup soup = new PeaSoup();
                for (int cell = 0; cell < 16; cell++) {
                    soup.lay(cell, 500);
                }
                soup.sheet(0, 32, 16);
                for (int i = 0; i < 16; i++) {
                    soup.put(0, i, i == at ? wrong : i % 2 * 999);
                }
                Due.is("up to " + at, soup.fogs(0), at);
                for (int cell = 0; cell < 16; cell++) {
                    Due.is("FOG of " + cell, soup.fog(cell), cell < at ? cell % 2 * 999 : 500);
                }
                Due.is("no ERROR", soup.told(1) + soup.told(2) + soup.told(3) + soup.told(4) + soup.told(5), 0);
            }
        }
    }

    /** ".. or for which there is no CELL." */
    private static void fogsUpToTheLastCell() {
        for (int n : new int[] {0, 1, 15, 16, 17, 40}) {
            PeaSoup soup = row(n);
            soup.lay(15, 500);
            if (n > 16) {
                soup.put(0, 16, 1000);
            }
            Due.is("fogs of " + n, soup.fogs(0), Math.min(n, 16));
            Due.is("FOG of 15", soup.fog(15), n < 16 ? 500 : 16);
        }
    }

    /** A SHEET of the FILLS 10, 20, .. of n numbers, and so many JARS with these FILLS. */
    private static PeaSoup fills(int numbers, int jars) {
        PeaSoup soup = new PeaSoup();
        soup.sheet(0, 16, numbers);
        for (int i = 0; i < numbers; i++) {
            soup.put(0, i, 10 * i + 10);
        }
        for (int i = 0; i < jars; i++) {
            soup.jar(0, 0, 10 * i + 10);
        }
        return soup;
    }

    /** judge: "the first that isn't so (one that lacks ..)". */
    private static void judgesOneThatLacks() {
        for (int jars = 0; jars <= 6; jars++) {
            for (int numbers = 0; numbers < jars; numbers++) {
                Due.is(numbers + " for " + jars, fills(numbers, jars).judge(0), numbers);
            }
            Due.is("all are", fills(jars, jars).judge(0), -1);
        }
    }

    /** ".. (.. or is too many, too); -1: all are." */
    private static void judgesOneTooMany() {
        for (int jars = 0; jars <= 6; jars++) {
            for (int numbers : new int[] {jars + 1, 7, 40}) {
                Due.is(numbers + " for " + jars, fills(numbers, jars).judge(0), jars);
            }
            for (int wrong = 0; wrong < jars; wrong++) {
                PeaSoup soup = fills(jars + 1, jars);
                soup.change(wrong, 1, 10 * wrong + 11);
                Due.is("the first is " + wrong, soup.judge(0), wrong);
            }
        }
        PeaSoup zero = new PeaSoup();
        zero.sheet(0, 8, 1);
        Due.is("a 0 too many", zero.judge(0), 0);
        zero.jar(0, 0, 0);
        Due.is("a JAR that is empty", zero.judge(0), -1);
        zero.jar(0, 0, 0);
        Due.is("one that is empty lacks", zero.judge(0), 1);
    }

    /** A number of few bits is what is left of it. */
    private static void judgesBits() {
        PeaSoup soup = new PeaSoup();
        soup.jar(0, 0, 5);
        int[][] rows = {{8, 256 + 5, -1}, {16, 256 + 5, 0}, {16, 65536 + 5, -1}, {32, 65536 + 5, 0}, {32, 5, -1},
            {8, 5 - 256, -1}, {16, 5 - 65536, -1}, {32, LEAST + 5, 0}};
        for (int[] row : rows) {
            soup.sheet(0, row[0], 1);
            soup.put(0, 0, row[1]);
            Due.is(row[1] + " of " + row[0] + " bits", soup.judge(0), row[2]);
        }
        soup.change(0, 1, 999);
        soup.sheet(0, 8, 1);
        soup.put(0, 0, 999);
        Due.is("999 isn't of 8 bits", soup.judge(0), 0);
        soup.change(0, 1, 128);
        soup.put(0, 0, 128);
        Due.is("nor is 128", soup.judge(0), 0);
        soup.change(0, 1, 127);
        soup.put(0, 0, 127);
        Due.is("127 is", soup.judge(0), -1);
    }

    /** image: "how often that was done": no restore takes it back. */
    private static void howOftenAnImageWasMade() {
        PeaSoup soup = new PeaSoup();
        Due.is("none yet", soup.restore(), Due.NONE);
        for (int i = 1; i <= 50; i++) {
            Due.is("image", soup.image(), i);
            soup.restore();
        }
        Due.is("told(2)", soup.told(2), 1);
    }

    /** "All .. is kept as an IMAGE"; "All is as the IMAGE has it, which stays: HOUR." */
    private static void whatAnImageKeeps() {
        Twins.onlyAnswer("image, all else, restore", x -> {
            Cities.some(x);
            x.image();
        }, x -> {
            x.lay(0, 999);
            x.set(0, 9);
            x.set(1, 1);
            x.become(0, 0);
            x.change(1, 0, 15);
            x.change(1, 1, 0);
            x.change(1, 2, 99);
            x.change(1, 3, 0);
            x.jar(0, 0, 7);
            x.person(0);
            x.walk(0, 9);
            x.text(0);
            Due.text(x, 1, "9");
            Due.feed(x, "h");
            x.tell(5);
            x.check();
            x.tell(6);
            x.loose(3);
            x.seed(5);
            return x.restore();
        }, 3);
        Twins.onlyAnswer("and again", x -> {
            Cities.full(x);
            x.image();
        }, x -> {
            x.check();
            x.text(1);
            x.restore();
            x.hours(60);
            return x.restore();
        }, 0);
    }

    /** "(but SHEETS, THE TRACE, what told() tells, and how often this was done)". */
    private static void whatAnImageLeaves() {
        PeaSoup soup = new PeaSoup();
        soup.jar(60, 0, 5);
        soup.sheet(0, 8, 3);
        soup.sheet(1, 8, 3);
        soup.voice(0, 3, 1);
        soup.fog(-1);
        Due.is("image", soup.image(), 1);
        soup.sheet(0, 0, 0);
        soup.put(1, 1, 77);
        soup.sheet(2, 16, 1);
        soup.voice(0, 0, 1);
        soup.fog(-1);
        Due.is("restore", soup.restore(), 0);
        Due.is("SHEET 0 is missing", soup.fogs(0), Due.NONE);
        Due.is("SHEET 1 has what was put", soup.fogs(1), 3);
        Due.is("77", soup.fog(1), 77);
        Due.is("SHEET 2 is there", soup.fogs(2), 1);
        Due.is("THE TRACE is the latest", soup.count(10), 1);
        Due.is("told(1)", soup.told(1), 2);
        Due.is("told(2)", soup.told(2), 1);
        Due.is("how often", soup.image(), 2);
    }

    /** "in place of one ahead". */
    private static void anImageInPlaceOfOneAhead() {
        PeaSoup soup = new PeaSoup();
        soup.jar(0, 0, 5);
        soup.jar(0, 0, 6);
        soup.person(3);
        soup.image();
        PeaSoup fewer = new PeaSoup();
        fewer.image();
        fewer.jar(0, 0, 5);
        fewer.person(3);
        fewer.hours(9);
        Due.is("restore", fewer.restore(), 0);
        Due.is("no JARS", fewer.ofJar(0, 0), Due.BEYOND);
        Due.is("no PEOPLE", fewer.at(0), Due.BEYOND);
        fewer.jar(0, 0, 5);
        fewer.change(0, 2, 50);
        fewer.change(0, 3, 1);
        fewer.restore();
        fewer.jar(0, 0, 5);
        Due.is("one made anew: its AGE", fewer.ofJar(0, 4), 0);
        Due.is("one made anew isn't OPEN", fewer.ofJar(0, 5), 0);
        soup.hours(4);
        soup.change(1, 1, 9);
        Due.is("the second", soup.image(), 2);
        soup.hours(4);
        soup.change(1, 1, 8);
        Due.is("restore", soup.restore(), 4);
        Due.is("FILL of the second", soup.ofJar(1, 3), 9);
        PeaSoup last = new PeaSoup();
        Cities.late(last, 9999);
        last.image();
        Due.is("the last HOUR", last.restore(), 9999);
    }

    /** tell: "One more number waits: how many. FULL: 20 wait." */
    private static void twentyWait() {
        PeaSoup soup = new PeaSoup();
        for (int i = 1; i <= 20; i++) {
            Due.is("tell", soup.tell(i % 2 == 0 ? LEAST : MOST), i);
            Due.is("that wait", soup.count(9), i);
        }
        Due.is("the 21st", soup.tell(0), Due.FULL);
        Due.is("20 wait", soup.count(9), 20);
        Due.is("the first isn't so", soup.check(), 1);
        Due.is("one again", soup.tell(0), 1);
    }

    /** check: "are FOG of all CELLS behind 1, 2, .. HOURS: 0; else 1 and the place (from 0) of the first". */
    private static void checksEachPlace() {
        for (int many = 0; many <= 20; many++) {
            for (int wrong = 0; wrong <= many; wrong++) {
                PeaSoup soup = new PeaSoup();
                soup.lay(7, 15);
                for (int i = 0; i < many; i++) {
                    soup.tell(Math.max(0, 14 - i) + (i >= wrong ? 1 : 0));
                }
                Due.is(many + ", wrong from " + wrong + " on", soup.check(), wrong == many ? 0 : 1 + wrong);
            }
        }
        PeaSoup now = new PeaSoup();
        now.lay(7, 15);
        now.tell(15);
        Due.is("what is now isn't behind 1", now.check(), 1);
        now.tell(-1);
        Due.is("below 0", now.check(), 1);
    }

    /** "The numbers that wait (none do then)", whatever is answered; nothing else changes. */
    private static void checkUsesThemUp() {
        PeaSoup soup = new PeaSoup();
        Due.is("none wait", soup.check(), 0);
        soup.lay(0, 5);
        soup.tell(9);
        soup.tell(3);
        Due.is("the first isn't so", soup.check(), 1);
        Due.is("none wait", soup.count(9), 0);
        Due.is("none wait", soup.check(), 0);
        soup.tell(4);
        Due.is("it is so, without those ahead", soup.check(), 0);
        Due.is("none wait", soup.count(9), 0);
        Due.is("FOG", soup.fog(0), 5);
        Due.is("HOUR", soup.count(2), 0);
        Twins.onlyAnswer("check, when none wait", Cities::fresh, PeaSoup::check, 0);
    }

    /** count: each of 0 .. 11 at its least and its most. */
    private static void countsOfAll() {
        PeaSoup soup = new PeaSoup();
        for (int i = 0; i < 6; i++) {
            soup.jar(0, i, 999);
            soup.change(i, 3, 1);
            soup.person(i);
        }
        for (int cell = 0; cell < 16; cell++) {
            soup.lay(cell, 999);
        }
        soup.set(0, 9);
        soup.set(1, 999);
        for (int i = 0; i < 50; i++) {
            soup.feed('f', 1);
        }
        for (int i = 0; i < 20; i++) {
            soup.tell(i);
        }
        soup.seed(LEAST);
        soup.become(5, 60);
        soup.voice(5, 3, 1);
        int[] due = {6, 6, 0, 9, 999, 16 * 999, 6 * 999, 63, 50, 20, 9, LEAST};
        for (int what = 0; what < due.length; what++) {
            Due.is("count(" + what + ")", soup.count(what), due[what]);
        }
        Due.is("count(12)", soup.count(12), Due.BEYOND);
        Due.is("count(-1)", soup.count(-1), Due.BEYOND);
        soup.seed(-1000000001);
        Due.is("z may be as an ERROR is", soup.count(11), -1000000001);
        Due.is("which isn't told", soup.told(1), 2);
    }

    /** "How many acts have answered an ERROR LOW - k (k 1 .. 5); BEYOND: another k (counted, too)." */
    private static void toldCountsActs() {
        PeaSoup soup = new PeaSoup();
        soup.jar(0, 0, 0);
        for (int i = 0; i < 6; i++) {
            soup.person(0);
        }
        for (int i = 1; i <= 9; i++) {
            soup.fog(16);
            soup.restore();
            soup.sheet(0, 8, -1);
            soup.person(0);
            soup.as(0, 1);
            for (int k = 1; k <= 5; k++) {
                Due.is("told(" + k + ")", soup.told(k), i);
            }
        }
        for (int k : new int[] {0, 6, -1, LEAST, MOST}) {
            int before = soup.told(1);
            Due.is("told(" + k + ")", soup.told(k), Due.BEYOND);
            Due.is("counted, too", soup.told(1), before + 1);
        }
        Due.is("told(2)", soup.told(2), 9);
    }
}
