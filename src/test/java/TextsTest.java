/** Promises 13 to 15: texts. */
public final class TextsTest {
    public static void main(String[] args) {
        feeds();
        lawsWithoutText();
        values();
        faults();
        textsAreKept();
        textsRuleTheHour();
        Due.end();
    }

    private static void feeds() {
        PeaSoup soup = new PeaSoup();
        Due.is("feed 0 bytes", soup.feed(0L, 0), Due.BEYOND);
        Due.is("feed 9 bytes", soup.feed(0L, 9), Due.BEYOND);
        Due.is("feed -1 bytes", soup.feed(0L, -1), Due.BEYOND);
        for (int i = 1; i <= 6; i++) {
            Due.is("feed 8", soup.feed(0x6666666666666666L, 8), 8 * i);
        }
        Due.is("feed 3 to 48", soup.feed(0L, 3), Due.FULL);
        Due.is("feed 9 to 48", soup.feed(0L, 9), Due.BEYOND);
        Due.is("feed 2 to 48", soup.feed(-1L, 2), 50);
        Due.is("feed 1 to 50", soup.feed(0L, 1), Due.FULL);
        Due.is("bytes", soup.count(8), 50);
        Due.is("text(-1)", soup.text(-1), Due.BEYOND);
        Due.is("text(2)", soup.text(2), Due.BEYOND);
        Due.is("THE TAPE stays", soup.count(8), 50);
        Due.is("ff..", soup.text(0), -11);
        Due.is("THE TAPE is empty", soup.count(8), 0);
        Due.is("a word's highest bytes", soup.feed(0x3837363534333231L, 8), 8);
        Due.is("eight digits", soup.text(0), -14);
        Due.is("only the lowest bytes", soup.feed(0x7866L, 1), 1);
        Due.is("f", soup.text(0), 1);
    }

    private static void lawsWithoutText() {
        PeaSoup soup = new PeaSoup();
        Due.is("f*w/20", soup.law(0, 39, 1, 0), 1);
        Due.is("f*w/20 with 9", soup.law(0, 999, 9, 5), 449);
        Due.is("f*w/20 held above", soup.law(0, 19980, 1, 0), 999);
        Due.is("f*w/20 held below", soup.law(0, -999, 9, 0), 0);
        Due.is("f*w wraps", soup.law(0, 65536, 65536, 0), 0);
        Due.is("f*w wraps to much", soup.law(0, 65536, 16384, 0), 999);
        Due.is("w+1", soup.law(1, 999, 9, 23), 10);
        Due.is("w+1 held", soup.law(1, 0, 999, 0), 999);
        Due.is("w+1 below", soup.law(1, 0, -5, 0), 0);
        Due.is("w+1 wraps", soup.law(1, 0, Integer.MAX_VALUE, 0), 0);
        Due.is("law(2, ..)", soup.law(2, 0, 0, 0), Due.BEYOND);
        Due.is("law(-1, ..)", soup.law(-1, 0, 0, 0), Due.BEYOND);
    }

    private static void values() {
        Object[][] rows = { // TEXT, f, w, h, what it gives
            {"f", 77, 0, 0, 77}, {"w", 0, 8, 0, 8}, {"h", 0, 0, 23, 23}, {"0", 1, 1, 1, 0}, {"0012", 1, 1, 1, 12},
            {"9999", 0, 0, 0, 999}, {"f+w*h", 1, 2, 3, 7}, {"(f+w)*h", 1, 2, 3, 9},
            {"f-w-h", 10, 3, 2, 5}, {"f/w/h", 100, 5, 2, 10}, {"f%w*h", 17, 5, 3, 6}, {"f-w+h", 10, 3, 2, 9},
            {"f/w", 7, 0, 0, 0}, {"f%w", 7, 0, 0, 0}, {"9+f/w", -7, 2, 0, 6}, {"9+f%w", -7, 2, 0, 8},
            {"9+f/w", 7, -2, 0, 6}, {"9+f%w", 7, -2, 0, 10},
            {"f<w", 1, 2, 0, 1}, {"f<w", 2, 2, 0, 0}, {"f=w", 2, 2, 0, 1}, {"f=w", 2, 3, 0, 0}, {"f>w", 3, 2, 0, 1},
            {"f>w", 2, 2, 0, 0}, {"f&w", 5, -2, 0, 1}, {"f&w", 5, 0, 0, 0}, {"f|w", 0, 0, 0, 0}, {"f|w", 0, 9, 0, 1},
            {"!f", 0, 0, 0, 1}, {"!f", 4, 0, 0, 0}, {"!!f", 4, 0, 0, 1}, {"!f+w", 0, 5, 0, 6}, {"!(f+w)", 0, 5, 0, 0},
            {"f|w&h", 1, 0, 0, 1}, {"(f|w)&h", 1, 0, 0, 0}, {"f<w&w<h", 1, 2, 3, 1}, {"f<w=1", 0, 0, 0, -13},
            {"(f<w)=1", 1, 2, 0, 1}, {"f+1<w*2", 3, 2, 0, 0}, {"f=1|f=2|f=3", 3, 0, 0, 1},
            {"f*f", 65536, 0, 0, 0}, {"f*9999", 1000000, 0, 0, 999}, {"f+w", Integer.MAX_VALUE, 1, 0, 0},
            {"f/w-1", Integer.MIN_VALUE, -1, 0, 999}, {"f%w", Integer.MIN_VALUE, -1, 0, 0},
            {"!!!!!f", 9, 0, 0, 0}, {"(((((f)))))", 9, 0, 0, 9}, {"!(!(!f))", 9, 0, 0, 0},
            {"(!f)+(!w)+(!h)+(!f)+(!w)+(!h)", 0, 0, 0, 6},
            {"f+f+f+f+f+f+f+f+f+f+f+f+f+f+f+f+f+f+f+f+f+f+f+f+10", 2, 0, 0, 58},
            {"!f+f+f+f+f+f+f+f+f+f+f+f+f+f+f+f+f+f+f+f+f+f+f+f+f", 2, 0, 0, 48},
            {"0|0&0<0+0*(0|0&0<0+0*(0|0&0<0+0*(0|0&0<0+0*(f))))", 2, 0, 0, 0},
        };
        for (Object[] row : rows) {
            for (int use = 0; use <= 1; use++) {
                PeaSoup soup = new PeaSoup();
                String text = (String) row[0];
                int due = (Integer) row[4];
                int read = Due.text(soup, use, text);
                int got = read == 1 ? soup.law(use, (Integer) row[1], (Integer) row[2], (Integer) row[3]) : read;
                Due.is(text + " of " + row[1] + ", " + row[2] + ", " + row[3], got, due);
            }
        }
    }

    private static void faults() {
        Object[][] rows = { // TEXT, FAULT
            {"", 0}, {"x", 0}, {"+", 0}, {"-1", 0}, {"f ", 1}, {" f", 0}, {"f+", 2}, {"f++w", 2}, {"ff", 1}, {"1f", 1},
            {"f1", 1}, {"12345", 4}, {"f+12345+", 6}, {"f<w<h", 3}, {"f=w>h", 3}, {"f<", 2}, {"f<=w", 2}, {"(f", 2},
            {"(f+", 3}, {"f)", 1}, {"()", 1}, {"(f)w", 3}, {"(f))", 3}, {"!", 1}, {"!)", 1}, {"f!", 1}, {"f(w)", 1},
            {"!!!!!!f", 5}, {"((((((f))))))", 5}, {"!(!(!(f", 5}, {"!!!!!(", 5}, {"!!!!!", 5}, {"(((((", 5},
            {"(((((!", 5}, {"((((!!f", 5}, {"f&&w", 2}, {"f|", 2}, {"f|&", 2}, {"f*/w", 2}, {"f%", 2}, {"F", 0},
            {"f\u00e9", 1}, {"\u0000", 0}, {"f\u0000", 1}, {"f,w", 1}, {"(f<w<h)", 4}, {"(f<w)<h<w", 7},
            {"\u00ff", 0}, {"f\u00ff", 1}, {"(f;", 2},
        };
        for (Object[] row : rows) {
            PeaSoup soup = new PeaSoup();
            String text = (String) row[0];
            Due.is("FAULT of '" + text + "'", Due.text(soup, 0, text), -10 - (Integer) row[1]);
            Due.is("'" + text + "': THE TAPE is empty", soup.count(8), 0);
            Due.is("'" + text + "': the one ahead stays", soup.law(0, 40, 5, 0), 10);
            Due.is("'" + text + "': no ERROR", soup.told(1) + soup.told(2) + soup.told(3) + soup.told(4), 0);
        }
    }

    private static void textsAreKept() {
        PeaSoup soup = new PeaSoup();
        Due.is("drifts", Due.text(soup, 0, "f+1"), 1);
        Due.is("thins as at first", soup.law(1, 40, 5, 0), 6);
        Due.is("thins", Due.text(soup, 1, "f+2"), 1);
        Due.is("drifts stays", soup.law(0, 40, 5, 0), 41);
        Due.is("drifts anew", Due.text(soup, 0, "f+3"), 1);
        Due.is("drifts in place of one ahead", soup.law(0, 40, 5, 0), 43);
        Due.is("thins stays", soup.law(1, 40, 5, 0), 42);
        Due.is("a FAULT", Due.text(soup, 1, "f+"), -12);
        Due.is("thins stays behind a FAULT", soup.law(1, 40, 5, 0), 42);
    }

    private static void textsRuleTheHour() {
        PeaSoup soup = new PeaSoup();
        Due.text(soup, 0, "3");
        Due.text(soup, 1, "h");
        soup.lay(0, 20);
        Due.is("hour 0: nothing thins", soup.hours(1), 20);
        Due.is("fog 0 gave 3 to two", soup.fog(0), 14);
        Due.is("fog 1", soup.fog(1), 3);
        Due.is("fog 4", soup.fog(4), 3);
        Due.is("hour 1: 14 gives 3, 3 gives 0; each is 1 less", soup.hours(1), 20 - 3);
        Due.is("fog 0", soup.fog(0), 7);
        Due.is("fog 1", soup.fog(1), 5);
        PeaSoup day = new PeaSoup();
        Due.text(day, 1, "h");
        day.hours(24);
        day.lay(5, 100);
        Due.is("HOUR 24 is 0", day.hours(1), 100);
        Due.is("HOUR 25 is 1", day.hours(1), 99);
        PeaSoup drift = new PeaSoup();
        Due.text(drift, 0, "h");
        drift.hours(24);
        drift.lay(5, 100);
        Due.is("HOUR 24 is 0, nothing drifts", drift.hours(1), 99);
        Due.is("HOUR 25 is 1: 1 to four, which thins at once", drift.hours(1), 94);
    }
}
