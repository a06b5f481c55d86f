import java.util.Random;

/** Term 2 and promises 13 to 15: each sentence of the document that names a bound has a test here. */
public final class TextBoundsTest {
    private static final int LEAST = Integer.MIN_VALUE;
    private static final int MOST = Integer.MAX_VALUE;

    public static void main(String[] args) {
        tapeOfFifty();
        lowestBytesFirst();
        textEmptiesTheTape();
        numbersOfOneToFourDigits();
        oneComparison();
        noBlanks();
        namesAndOtherBytes();
        fiveOpenAtOnce();
        openOnesEnd();
        intsThatWrap();
        quotientsAreCut();
        byZeroIsZero();
        oneOrZero();
        whatIsNotZeroIsTrue();
        whatBindsMore();
        fromLeftToRight();
        heldWithin0And999();
        withoutAText();
        lawTakesAnyNumbers();
        endsTooEarly();
        faultsOfAllShortTexts();
        faultsByDraws();
        Due.end();
    }

    private static int read(String text) {
        return Due.text(new PeaSoup(), 0, text);
    }

    /** The value of a TEXT, held; the FAULT's answer, if it is none. */
    private static int value(String text, int f, int w, int h) {
        PeaSoup soup = new PeaSoup();
        int read = Due.text(soup, 1, text);
        return read == 1 ? soup.law(1, f, w, h) : read;
    }

    private static void gives(String text, int f, int w, int h, int due) {
        Due.is(text + " with " + f + ", " + w + ", " + h, value(text, f, w, h), due);
    }

    private static void fault(String text, int place) {
        PeaSoup soup = new PeaSoup();
        Due.text(soup, 0, "f/2");
        Due.is("FAULT of '" + text + "'", Due.text(soup, 0, text), -10 - place);
        Due.is("THE TAPE is empty", soup.count(8), 0);
        Due.is("the one ahead stays", soup.law(0, 90, 1, 1), 45);
        for (int k = 1; k <= 5; k++) {
            Due.is("no ERROR", soup.told(k), 0);
        }
    }

    /** "THE TAPE (bytes, at most 50)"; feed: "(1 .. 8)", "BEYOND. FULL." */
    private static void tapeOfFifty() {
        for (int many = 42; many <= 50; many++) {
            for (int n = 1; n <= 8; n++) {
                PeaSoup soup = new PeaSoup();
                for (int i = 0; i < many; i++) {
                    soup.feed('f', 1);
                }
                boolean full = many + n > 50;
                Due.is(n + " to " + many, soup.feed(0x6666666666666666L, n), full ? Due.FULL : many + n);
                Due.is("bytes", soup.count(8), full ? many : many + n);
                Due.is("told(4)", soup.told(4), full ? 1 : 0);
            }
        }
        String fifty = "f+f+f+f+f+f+f+f+f+f+f+f+f+f+f+f+f+f+f+f+f+f+f+f+10";
        gives(fifty, 2, 0, 0, 58);
        gives("!f+f+f+f+f+f+f+f+f+f+f+f+f+f+f+f+f+f+f+f+f+f+f+f+f", 2, 0, 0, 48);
        gives("!!!!!f+!!!!!f+!!!!!f+!!!!!f+!!!!!f+!!!!!f+!!!!!f+w", 0, 5, 0, 12);
        PeaSoup cut = new PeaSoup();
        Due.feed(cut, fifty);
        cut.feed('1', 1);
        Due.is("what is FULL isn't fed in part", cut.text(0), 1);
        Due.is("58", cut.law(0, 2, 0, 0), 58);
        fault("f+f+f+f+f+f+f+f+f+f+f+f+f+f+f+f+f+f+f+f+f+f+f+f+f+", 50);
    }

    /** "The n lowest bytes (1 .. 8) of a word, the lowest first". */
    private static void lowestBytesFirst() {
        long word = 0x682d772d662b3939L; // the bytes of 99+f-w-h
        int[] values = {9, 99, -13, 199, -15, 196, -17, 191};
        for (int n = 1; n <= 8; n++) {
            PeaSoup soup = new PeaSoup();
            Due.is("feed", soup.feed(word, n), n);
            int read = soup.text(0);
            Due.is(n + " lowest bytes", read == 1 ? soup.law(0, 100, 3, 5) : read, values[n - 1]);
        }
        PeaSoup two = new PeaSoup();
        two.feed(word, 1);
        two.feed(0x6600L | '+', 1);
        Due.is("those of the next word come behind", two.feed(-256L | 'w', 1), 3);
        Due.is("9+w", two.text(0), 1);
        Due.is("its value", two.law(0, 0, 5, 0), 14);
        PeaSoup high = new PeaSoup();
        high.feed(0xe666666666666666L, 8);
        Due.is("ffffffff with the highest bit: the second is at fault", high.text(0), -11);
        PeaSoup last = new PeaSoup();
        last.feed(0xb12b312b312b312bL, 8);
        Due.is("a byte above 127 is no sign", last.text(0), -10);
        fault("1+1+1+1\u00ab", 7);
        fault("1+1+1+\u00b1", 6);
    }

    /** "THE TAPE, which is empty then, is the TEXT of a USE (0, 1), in place of one ahead: 1." */
    private static void textEmptiesTheTape() {
        for (int use = 0; use <= 1; use++) {
            PeaSoup soup = new PeaSoup();
            Due.feed(soup, "f+1");
            Due.is("text", soup.text(use), 1);
            Due.is("THE TAPE", soup.count(8), 0);
            Due.is("an empty one", soup.text(use), -10);
            Due.is("stays", soup.law(use, 50, 0, 0), 51);
            Due.is("another", Due.text(soup, use, "f+2"), 1);
            Due.is("in place", soup.law(use, 50, 0, 0), 52);
            Due.is("the other USE is without a TEXT", soup.law(1 - use, 100, 5, 0), use == 0 ? 6 : 25);
            Due.feed(soup, "f+3");
            Due.is("text(2)", soup.text(2), Due.BEYOND);
            Due.is("THE TAPE stays", soup.count(8), 3);
            Due.is("text", soup.text(use), 1);
            Due.is("what stayed", soup.law(use, 50, 0, 0), 53);
        }
    }

    /** "a NUMBER of 1 to 4 digits". */
    private static void numbersOfOneToFourDigits() {
        gives("0", 1, 1, 1, 0);
        gives("9", 1, 1, 1, 9);
        gives("99", 1, 1, 1, 99);
        gives("999", 1, 1, 1, 999);
        gives("9999/100", 1, 1, 1, 99);
        gives("0000", 1, 1, 1, 0);
        gives("0009", 1, 1, 1, 9);
        fault("00000", 4);
        fault("99999", 4);
        fault("f+12345", 6);
        fault("(12345)", 5);
        fault("!12345", 5);
        fault("1234(", 4);
        fault("", 0);
    }

    /** "B: S, or S < S, S = S, S > S." */
    private static void oneComparison() {
        for (char first : "<=>".toCharArray()) {
            for (char second : "<=>".toCharArray()) {
                fault("f" + first + "w" + second + "h", 3);
                fault("f" + first + second + "h", 2);
                Due.is("one in each B", read("f" + first + "w&w" + second + "h"), 1);
                Due.is("one in each B", read("f" + first + "w|w" + second + "h"), 1);
                Due.is("one in ( )", read("(f" + first + "w)" + second + "h"), 1);
                Due.is("one in ( )", read("f" + first + "(w" + second + "h)"), 1);
                fault("(f" + first + "w)" + second + "h" + first + "1", 7);
                fault("f" + first + "(w" + second + "h)" + first + "1", 7);
            }
        }
    }

    /** "No blanks." */
    private static void noBlanks() {
        fault(" f", 0);
        fault("f ", 1);
        fault("f +w", 1);
        fault("f+ w", 2);
        fault("1 2", 1);
        fault("( f)", 1);
        fault("(f )", 2);
        fault("! f", 1);
        fault("f\t", 1);
        fault("f\n", 1);
    }

    /** A NAME is f, w or h; each other byte is at fault, and so is each sign where none can stand. */
    private static void namesAndOtherBytes() {
        for (int b = 0; b < 256; b++) {
            String sign = String.valueOf((char) b);
            boolean begins = "fwh0123456789!(".contains(sign);
            boolean whole = "fwh0123456789".contains(sign);
            Due.is("byte " + b, read(sign), whole ? 1 : begins ? -11 : -10);
            boolean goesOn = "+-*/%<=>&|".contains(sign);
            Due.is("f and byte " + b, read("f" + sign), goesOn ? -12 : -11);
            boolean digit = "0123456789".contains(sign);
            Due.is("1 and byte " + b, read("1" + sign), digit ? 1 : goesOn ? -12 : -11);
            Due.is("(f and byte " + b, read("(f" + sign + ")"), sign.equals(")") ? -13 : goesOn ? -13 : -12);
        }
    }

    /** "At most 5 of ! and ( are open at once." */
    private static void fiveOpenAtOnce() {
        for (int signs = 0; signs < 64; signs++) {
            StringBuilder open = new StringBuilder();
            StringBuilder close = new StringBuilder();
            for (int i = 0; i < 6; i++) {
                boolean paren = (signs >> i & 1) == 1;
                if (i == 5) {
                    Due.is("five: " + open + "f" + close, read(open + "f" + close), 1);
                    fault(open.toString(), 5);
                    if (close.length() > 0) {
                        fault(open + "f", 6);
                    }
                }
                open.append(paren ? '(' : '!');
                close.append(paren ? ")" : "");
            }
            fault(open + "f" + close, 5);
            fault("f+" + open + "f" + close, 7);
        }
    }

    /** ".. open at once": a ( ends with its ), a ! with its Q. */
    private static void openOnesEnd() {
        Due.is("five, and five", read("(((((f)))))+(((((f)))))"), 1);
        Due.is("five, and five", read("!!!!!f+!!!!!f*!!!!!f"), 1);
        Due.is("four, and one and one", read("((((!f*!f+(f)))))"), 1);
        Due.is("four, and one and one", read("((((f)*(f)&(f))))+(f)"), 1);
        Due.is("! of ( ) has ended", read("!(f)+!(!(!f))"), 1);
        Due.is("! (five) of a NUMBER", read("!!!!!1234<(((((1)))))"), 1);
        fault("!!!!!f+!!!!!!f", 12);
        fault("(((((f)))))+((((((f))))))", 17);
        fault("((((!f*!(f)))))", 8);
        fault("!(!(!(f)))", 5);
        Due.is("five of both", read("!(!(!f))"), 1);
    }

    /** "Ints that wrap". */
    private static void intsThatWrap() {
        gives("(f+1)<f", MOST, 0, 0, 1);
        gives("(f-1)>f", LEAST, 0, 0, 1);
        gives("f+w-w=f", MOST, MOST, 0, 1);
        gives("f*w", 65536, 65536, 0, 0);
        gives("f*w=0-h", 65536, 32768, LEAST, 1);
        gives("f*f", MOST, 0, 0, 1);
        gives("f*w=f", LEAST, -1, 0, 1);
        gives("0-f=f", LEAST, 0, 0, 1);
        gives("f/w=f", LEAST, -1, 0, 1);
        gives("f/w", LEAST, -1, 0, 0);
        gives("f/w-1", LEAST, -1, 0, 999);
        gives("f%w", LEAST, -1, 0, 0);
        gives("9999*9999*9999*9999=f", (int) (9999L * 9999 * 9999) * 9999, 0, 0, 1);
        gives("f+w<h", MOST, 1, MOST, 1);
        gives("f<w", LEAST, MOST, 0, 1);
        gives("f>w", LEAST, MOST, 0, 0);
        gives("f=w", LEAST, MOST, 0, 0);
    }

    /** "/ cut, % the rest that it leaves". */
    private static void quotientsAreCut() {
        int[][] rows = {{7, 2, 3, 1}, {-7, 2, -3, -1}, {7, -2, -3, 1}, {-7, -2, 3, -1}, {1, 2, 0, 1}, {-1, 2, 0, -1},
            {8, 2, 4, 0}, {-8, 2, -4, 0}, {MOST, 1, MOST, 0}, {LEAST, 1, LEAST, 0}, {LEAST, 2, -1073741824, 0},
            {LEAST, MOST, -1, -1}, {MOST, LEAST, 0, MOST}, {LEAST, LEAST, 1, 0}};
        for (int[] row : rows) {
            gives("f/w=h", row[0], row[1], row[2], 1);
            gives("f%w=h", row[0], row[1], row[3], 1);
        }
    }

    /** "both by 0 are 0". */
    private static void byZeroIsZero() {
        for (int f : new int[] {0, 1, -1, 5, MOST, LEAST}) {
            gives("7+f/w", f, 0, 0, 7);
            gives("7+f%w", f, 0, 0, 7);
            gives("7+f/0", f, 0, 0, 7);
            gives("7+f%0", f, 0, 0, 7);
            gives("7+f/(w-w)*9", f, 3, 0, 7);
        }
        gives("0/0", 0, 0, 0, 0);
        gives("0%0", 0, 0, 0, 0);
        gives("1|f/w", 1, 0, 0, 1);
    }

    /** "| & < = > ! are 1 or 0". */
    private static void oneOrZero() {
        gives("f|w", 6, 9, 0, 1);
        gives("f&w", 6, 9, 0, 1);
        gives("f|w", 0, 0, 0, 0);
        gives("f&w", 0, 9, 0, 0);
        gives("(f<w)+(w>f)+(f=f)", 6, 9, 0, 3);
        gives("7+(f<w)*5", 9, 6, 0, 7);
        gives("7+(f>w)*5", 6, 9, 0, 7);
        gives("7+(f=w)*5", 6, 9, 0, 7);
        gives("7+(f|w)*5", 0, 0, 0, 7);
        gives("7+(f&w)*5", 6, 0, 0, 7);
        gives("7+!f*5", 6, 0, 0, 7);
        gives("!f", 6, 0, 0, 0);
        gives("!f", 0, 0, 0, 1);
        gives("!!f", 6, 0, 0, 1);
        for (int way = -1; way <= 1; way++) {
            gives("f<w", 5 + way, 5, 0, way < 0 ? 1 : 0);
            gives("f=w", 5 + way, 5, 0, way == 0 ? 1 : 0);
            gives("f>w", 5 + way, 5, 0, way > 0 ? 1 : 0);
        }
    }

    /** "what is not 0 being true": not by bits, and below 0, too. */
    private static void whatIsNotZeroIsTrue() {
        gives("f&w", 1, 2, 0, 1);
        gives("f&w", 4, 8, 0, 1);
        gives("f&w", -1, LEAST, 0, 1);
        gives("f|w", 0, -1, 0, 1);
        gives("f|w", LEAST, 0, 0, 1);
        gives("!f", -1, 0, 0, 0);
        gives("!f", LEAST, 0, 0, 0);
        gives("!f", 256, 0, 0, 0);
    }

    /** "T: A { | A }. A: B { & B }. B: S .. S: P { + P, - P }. P: Q { * Q, / Q, % Q }." */
    private static void whatBindsMore() {
        gives("1|0&0", 0, 0, 0, 1);
        gives("(1|0)&0", 0, 0, 0, 0);
        gives("0&0|1", 0, 0, 0, 1);
        gives("0&(0|1)", 0, 0, 0, 0);
        gives("2&1<0", 0, 0, 0, 0);
        gives("(2&1)<0", 0, 0, 0, 0);
        gives("0&1<2", 0, 0, 0, 0);
        gives("(0&1)<2", 0, 0, 0, 1);
        gives("1+1=2", 0, 0, 0, 1);
        gives("1+(1=2)", 0, 0, 0, 1);
        gives("3+(1=1)", 0, 0, 0, 4);
        gives("2+3*4", 0, 0, 0, 14);
        gives("(2+3)*4", 0, 0, 0, 20);
        gives("20-7%4", 0, 0, 0, 17);
        gives("20-8/4", 0, 0, 0, 18);
        gives("!0+5", 0, 0, 0, 6);
        gives("!0*5", 0, 0, 0, 5);
        gives("!(0*5)", 0, 0, 0, 1);
        gives("!3=0", 0, 0, 0, 1);
        gives("!(3=0)", 0, 0, 0, 1);
        gives("!1|1", 0, 0, 0, 1);
        gives("!(1|1)", 0, 0, 0, 0);
    }

    /** Signs of one level are worked out from the left. */
    private static void fromLeftToRight() {
        gives("20-5-3", 0, 0, 0, 12);
        gives("20-(5-3)", 0, 0, 0, 18);
        gives("20-5+3", 0, 0, 0, 18);
        gives("100/10/5", 0, 0, 0, 2);
        gives("100/(10/5)", 0, 0, 0, 50);
        gives("100/10*5", 0, 0, 0, 50);
        gives("7*5%4", 0, 0, 0, 3);
        gives("7*(5%4)", 0, 0, 0, 7);
        gives("7%4*5", 0, 0, 0, 15);
    }

    /** "held within 0 to 999", for either USE. */
    private static void heldWithin0And999() {
        int[][] rows = {{LEAST, 0}, {-1000, 0}, {-1, 0}, {0, 0}, {1, 1}, {998, 998}, {999, 999}, {1000, 999},
            {MOST, 999}};
        for (int use = 0; use <= 1; use++) {
            PeaSoup soup = new PeaSoup();
            Due.text(soup, use, "f");
            for (int[] row : rows) {
                Due.is("USE " + use + " of " + row[0], soup.law(use, row[0], 0, 0), row[1]);
            }
        }
        gives("9999*9999-9999*9999+5", 0, 0, 0, 5);
    }

    /** "without a TEXT f*w/20"; "without a TEXT w+1". */
    private static void withoutAText() {
        PeaSoup soup = new PeaSoup();
        int[][] drifts = {{0, 9, 0}, {19, 1, 0}, {20, 1, 1}, {39, 1, 1}, {999, 0, 0}, {999, 9, 449}, {19999, 1, 999},
            {-20, 1, 0}, {-20, -1, 1}, {MOST, 2, 0}, {65536, 65536, 0}, {MOST, MOST, 0}, {LEAST, -1, 0}};
        for (int[] row : drifts) {
            Due.is(row[0] + "*" + row[1] + "/20", soup.law(0, row[0], row[1], 23), row[2]);
        }
        int[][] thins = {{0, 1}, {9, 10}, {998, 999}, {999, 999}, {-1, 0}, {-2, 0}, {MOST, 0}, {LEAST, 0}};
        for (int[] row : thins) {
            Due.is(row[0] + "+1", soup.law(1, 500, row[0], 23), row[1]);
        }
    }

    /** "What a USE gives with its NAMES in order as a, b, c." They have no bounds, and h is not cut to a day. */
    private static void lawTakesAnyNumbers() {
        PeaSoup soup = new PeaSoup();
        Due.text(soup, 0, "f");
        Due.is("a", soup.law(0, 1, 2, 3), 1);
        Due.text(soup, 0, "w");
        Due.is("b", soup.law(0, 1, 2, 3), 2);
        Due.text(soup, 0, "h");
        Due.is("c", soup.law(0, 1, 2, 3), 3);
        Due.is("c of 24", soup.law(0, 1, 2, 24), 24);
        Due.is("c of 999", soup.law(0, 1, 2, 999), 999);
        Due.is("use 2", soup.law(2, 1, 2, 3), Due.BEYOND);
        Due.is("use -1", soup.law(-1, 1, 2, 3), Due.BEYOND);
        Due.is("the least", soup.law(0, LEAST, LEAST, LEAST), 0);
        Due.is("the most", soup.law(0, MOST, MOST, MOST), 999);
    }

    /** "how many there are, if it ends too early." */
    private static void endsTooEarly() {
        String[] texts = {"f+w*(h-12)<!3&(4|f)=1", "!(!(!1))", "(((((1234)))))/f%w", "f|w&h<f+w*h"};
        for (String text : texts) {
            for (int n = 0; n <= text.length(); n++) {
                String part = text.substring(0, n);
                int place = placeOfFault(part);
                Due.is("the first bytes of a TEXT: " + part, read(part), place < 0 ? 1 : -10 - n);
            }
        }
    }

    /** FAULT: "the place of the first byte with which no TEXT goes on", of all TEXTS of up to 5 signs. */
    private static void faultsOfAllShortTexts() {
        String signs = "f1+*<&!()|";
        PeaSoup soup = new PeaSoup();
        StringBuilder text = new StringBuilder();
        int many = 1;
        for (int length = 0; length <= 5; length++) {
            for (int number = 0; number < many; number++) {
                text.setLength(0);
                for (int i = 0, rest = number; i < length; i++, rest /= signs.length()) {
                    text.append(signs.charAt(rest % signs.length()));
                }
                if (number % 100 == 0) {
                    soup = new PeaSoup();
                }
                same(soup, text.toString());
            }
            many *= signs.length();
        }
    }

    /** The same, of longer TEXTS by draws. */
    private static void faultsByDraws() {
        Random random = new Random(50);
        String signs = "fwh09+-*/%<=>&|!!((()))";
        PeaSoup soup = new PeaSoup();
        for (int run = 0; run < 20000; run++) {
            StringBuilder text = new StringBuilder();
            int length = 6 + random.nextInt(45);
            while (text.length() < length) {
                char sign = signs.charAt(random.nextInt(signs.length()));
                int place = placeOfFault(text.toString() + sign);
                boolean goesOn = place < 0 || place > text.length();
                if (goesOn || random.nextInt(200) == 0) {
                    text.append(sign);
                }
            }
            if (run % 30 == 0) {
                soup = new PeaSoup();
            }
            same(soup, text.toString());
        }
    }

    private static void same(PeaSoup soup, String text) {
        int place = placeOfFault(text);
        Due.is("'" + text + "'", Due.text(soup, 0, text), place < 0 ? 1 : -10 - place);
    }

    /**
     * The FAULT, found another way than by reading levels: sign by sign, with
     * rows of what is open. -1: it is a TEXT.
     */
    private static int placeOfFault(String text) {
        boolean[] comparedAhead = new boolean[6];
        int[] bangsAhead = new int[6];
        int parens = 0;
        int bangs = 0;
        int allBangs = 0;
        int digits = 0;
        boolean compared = false;
        boolean ended = false;
        for (int place = 0; place < text.length(); place++) {
            char sign = text.charAt(place);
            boolean digit = sign >= '0' && sign <= '9';
            if (!ended && (digit || sign == 'f' || sign == 'w' || sign == 'h')) {
                ended = true;
                digits = digit ? 1 : 4;
            } else if (!ended && sign == '!' && parens + allBangs < 5) {
                bangs++;
                allBangs++;
                continue;
            } else if (!ended && sign == '(' && parens + allBangs < 5) {
                bangsAhead[parens] = bangs;
                comparedAhead[parens] = compared;
                parens++;
                bangs = 0;
                compared = false;
                continue;
            } else if (ended && digit && digits < 4) {
                digits++;
            } else if (ended && sign == ')' && parens > 0) {
                parens--;
                bangs = bangsAhead[parens];
                compared = comparedAhead[parens];
                digits = 4;
            } else if (ended && "+-*/%".indexOf(sign) >= 0) {
                ended = false;
            } else if (ended && "&|".indexOf(sign) >= 0) {
                ended = false;
                compared = false;
            } else if (ended && "<=>".indexOf(sign) >= 0 && !compared) {
                ended = false;
                compared = true;
            } else {
                return place;
            }
            allBangs -= bangs;
            bangs = 0;
        }
        return ended && parens == 0 ? -1 : text.length();
    }
}
