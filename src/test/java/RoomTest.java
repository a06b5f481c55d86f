import java.lang.management.ManagementFactory;

/** What 512 calls of the dearest kinds make: little, as nothing that is made is ever given back. */
public final class RoomTest {
    private static final com.sun.management.ThreadMXBean THREADS =
        (com.sun.management.ThreadMXBean) ManagementFactory.getThreadMXBean();

    public static void main(String[] args) {
        for (int round = 0; round < 3; round++) {
            measure(round == 2);
        }
        Due.end();
    }

    private static void measure(boolean last) {
        long before = made();
        PeaSoup soup = new PeaSoup();
        long object = made() - before;
        for (int i = 0; i < 6; i++) {
            soup.jar(10 * i + 7, 5 + i, 999);
            soup.person(i);
        }
        soup.sheet(0, 16, 16);
        before = made();
        for (int i = 0; i < 40; i++) {
            soup.hide(0, 20);
            soup.which(0, 0);
            soup.mix(3, 500, 0);
            soup.odds(0, 60, 0);
            soup.first(3);
            soup.way(0, 15);
            soup.lamp(1);
            soup.image();
            soup.loose(9);
            soup.restore();
            soup.voice(3, 3, 3);
            soup.then(60, 0, 1);
        }
        long thoughts = made() - before;
        before = made();
        boolean yes = true;
        for (int i = 0; i < 64; i++) {
            soup.feed(0x2b662b662b662b66L, 8);
            soup.feed(0x66L, 1);
            yes = yes & soup.text(0) == 1;
            soup.feed(0x66L, 1);
            soup.text(1);
        }
        long texts = made() - before;
        Due.is("texts are read", yes ? 1 : 0, 1);
        if (last) {
            System.out.println("bytes: object " + object + ", thoughts " + thoughts + ", texts " + texts);
            Due.is("an object is small", object < 20000 ? 1 : 0, 1);
            Due.is("thoughts make nothing", thoughts < 4000 ? 1 : 0, 1);
            Due.is("a TEXT is small", texts < 128 * 600 ? 1 : 0, 1);
        }
    }

    private static long made() {
        return THREADS.getThreadAllocatedBytes(Thread.currentThread().getId());
    }
}
