/** What every test shares: the answers that are due, and a TEXT put on THE TAPE. */
final class Due {
    static final int BEYOND = -1000000001;
    static final int NONE = -1000000002;
    static final int STATE = -1000000003;
    static final int FULL = -1000000004;
    static final int KIND = -1000000005;

    private static int wrong = 0;
    private static int asked = 0;

    private Due() {
    }

    static void is(String call, long got, long want) {
        asked++;
        if (got != want) {
            wrong++;
            System.out.println(call + " answered " + got + ", due is " + want);
        }
    }

    /** The bytes of a text come to THE TAPE, eight to a word. */
    static void feed(PeaSoup soup, String text) {
        for (int from = 0; from < text.length(); from += 8) {
            int n = Math.min(8, text.length() - from);
            long word = 0;
            for (int i = 0; i < n; i++) {
                word |= (text.charAt(from + i) & 255L) << (8 * i);
            }
            soup.feed(word, n);
        }
    }

    /** The TEXT of a USE is read from THE TAPE: what text() answers. */
    static int text(PeaSoup soup, int use, String text) {
        feed(soup, text);
        return soup.text(use);
    }

    /** All that the face shows of the state but told(), asked without an ERROR. */
    static String all(PeaSoup soup) {
        StringBuilder all = new StringBuilder();
        for (int what = 0; what <= 11; what++) {
            all.append(soup.count(what)).append(' ');
        }
        for (int cell = 0; cell < 16; cell++) {
            all.append(soup.fog(cell)).append(' ');
        }
        int jars = soup.count(0);
        for (int jar = 0; jar < jars; jar++) {
            for (int what = 0; what <= 6; what++) {
                all.append(soup.ofJar(jar, what)).append(' ');
            }
        }
        int people = soup.count(1);
        for (int person = 0; person < people; person++) {
            all.append(soup.at(person)).append(' ');
        }
        int bodies = soup.count(10);
        for (int i = 0; i < bodies; i++) {
            all.append(soup.trace(i)).append(' ');
        }
        for (int use = 0; use <= 1; use++) {
            all.append(soup.law(use, 357, 4, 5)).append(' ').append(soup.law(use, 11, 9, 23)).append(' ');
        }
        return all.toString();
    }

    /** An act answers an ERROR, counts it, and changes nothing else. */
    static void error(PeaSoup soup, String call, int before, String allBefore, int got, int want) {
        is(call, got, want);
        is(call + ": told", soup.told(-1000000000 - want), before + 1);
        is(call + ": nothing else changes", allBefore.equals(all(soup)) ? 1 : 0, 1);
    }

    static void end() {
        System.out.println(asked + " answers asked, " + wrong + " not as due");
        if (wrong != 0) {
            System.exit(1);
        }
    }
}
