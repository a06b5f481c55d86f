import java.util.function.Consumer;
import java.util.function.ToIntFunction;

/**
 * Two objects made alike, one of which is asked a call: what else both answer
 * then tells whether the call has changed anything, THE TAPE, the numbers that
 * wait, SHEETS and the IMAGE too, which can only be looked at by using them up.
 */
final class Twins {
    private static final int LOW = -1000000000;
    private static final int[] LENGTHS = {0, 1, 5, 6, 16, 17, 39, 40};
    /** 5 in 8 bits, 5 in 16 bits: in more they are other numbers. */
    private static final int[] UNLIKE_BITS = {256 + 5, 65536 + 5};

    private Twins() {
    }

    /** The call answers an ERROR, which told() tells, and changes nothing else. */
    static void refuse(String call, Consumer<PeaSoup> make, ToIntFunction<PeaSoup> act, int error) {
        PeaSoup asked = made(make);
        PeaSoup other = made(make);
        Due.is(call, act.applyAsInt(asked), error);
        for (int k = 1; k <= 5; k++) {
            int more = LOW - k == error ? 1 : 0;
            Due.is(call + ": told(" + k + ")", asked.told(k), other.told(k) + more);
        }
        alike(call, asked, other);
    }

    /** The call answers what is due, no ERROR, and changes nothing at all. */
    static void onlyAnswer(String call, Consumer<PeaSoup> make, ToIntFunction<PeaSoup> act, int due) {
        PeaSoup asked = made(make);
        PeaSoup other = made(make);
        Due.is(call, act.applyAsInt(asked), due);
        for (int k = 1; k <= 5; k++) {
            Due.is(call + ": told(" + k + ")", asked.told(k), other.told(k));
        }
        alike(call, asked, other);
    }

    private static PeaSoup made(Consumer<PeaSoup> make) {
        PeaSoup soup = new PeaSoup();
        make.accept(soup);
        return soup;
    }

    private static void alike(String call, PeaSoup asked, PeaSoup other) {
        String all = examined(asked);
        String due = examined(other);
        if (!all.equals(due)) {
            System.out.println(call + " left\n  " + all + "\nbut due is\n  " + due);
        }
        Due.is(call + ": nothing else changes", all.equals(due) ? 1 : 0, 1);
    }

    /** All that can be learned of an object, which is used up by it. */
    private static String examined(PeaSoup soup) {
        StringBuilder all = new StringBuilder(Due.all(soup));
        all.append("| check ").append(soup.check());
        all.append("| text ").append(soup.text(1)).append(' ').append(soup.law(1, 123, 4, 5)).append(' ');
        all.append(soup.law(1, -7, 2, 19));
        for (int sheet = 0; sheet < 4; sheet++) {
            examineSheet(all, soup, sheet);
        }
        all.append("| restore ").append(soup.restore()).append(' ').append(Due.all(soup));
        all.append("| image ").append(soup.image());
        return all.toString();
    }

    private static void examineSheet(StringBuilder all, PeaSoup soup, int sheet) {
        all.append("| sheet ").append(soup.judge(sheet)).append(' ').append(soup.fogs(sheet)).append(':');
        for (int cell = 0; cell < 16; cell++) {
            all.append(' ').append(soup.fog(cell));
        }
        for (int n : LENGTHS) {
            all.append(' ').append(soup.move(sheet, n, sheet, n, 0));
        }
        for (int v : UNLIKE_BITS) {
            all.append(' ').append(soup.put(sheet, 0, v)).append(' ').append(soup.fogs(sheet));
            all.append(' ').append(soup.fog(0));
        }
    }
}
