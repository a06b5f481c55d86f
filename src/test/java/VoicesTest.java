/** Promises 31 to 33: draws and voices, these against real classes with real super calls. */
public final class VoicesTest {
    private static final StringBuilder TRACE = new StringBuilder();

    public static void main(String[] args) {
        seeds();
        voices();
        traces();
        Due.end();
    }

    private static void seeds() {
        PeaSoup soup = new PeaSoup();
        Due.is("z at first", soup.seed(Integer.MIN_VALUE), 1);
        Due.is("z was", soup.seed(-1000000001), Integer.MIN_VALUE);
        Due.is("z below LOW is no ERROR", soup.seed(0), -1000000001);
        Due.is("told", soup.told(1), 0);
        Due.is("z", soup.count(11), 0);
        soup.seed(-1000000001);
        Due.is("count(11)", soup.count(11), -1000000001);
        Due.is("told", soup.told(1), 0);
    }

    private static void voices() {
        int[] numbers = {0, 1, 2, 3, 5, -1, -7, 1000, 65535, Integer.MAX_VALUE, Integer.MIN_VALUE, 123456789};
        PeaSoup soup = new PeaSoup();
        for (int i = 0; i < 6; i++) {
            soup.jar(0, 0, 0);
        }
        int calls = 6;
        for (int kind = 0; kind < 7; kind++) {
            for (int act = 0; act < 4; act++) {
                for (int i = 0; i < numbers.length; i++) {
                    if (calls > 480) {
                        soup = new PeaSoup();
                        for (int j = 0; j < 6; j++) {
                            soup.jar(0, 0, 0);
                        }
                        calls = 6;
                    }
                    int jar = (i + act) % 6;
                    int mark = (i * 3 + kind) % 10;
                    soup.become(jar, 10 * kind + mark);
                    TRACE.setLength(0);
                    int due = say(made(kind, jar, mark), act, numbers[i]);
                    String call = "KIND " + kind + ", act " + act + ", x " + numbers[i];
                    Due.is(call, soup.voice(jar, act, numbers[i]), due);
                    Due.is(call + ": THE TRACE", traceOf(soup).equals(TRACE.toString()) ? 1 : 0, 1);
                    calls += 3 + soup.count(10);
                }
            }
        }
        Due.is("told", soup.told(1) + soup.told(2), 0);
    }

    private static void traces() {
        PeaSoup soup = new PeaSoup();
        Due.is("no TRACE", soup.trace(0), Due.NONE);
        Due.is("no BODIES", soup.count(10), 0);
        soup.jar(48, 0, 0);
        Due.is("tells", soup.voice(0, 3, 1), (6 ^ -7) - 6);
        int[] due = {50, 13, 11, 20, 10, 12, 20, 10};
        Due.is("BODIES", soup.count(10), due.length);
        for (int i = 0; i < due.length; i++) {
            Due.is("trace(" + i + ")", soup.trace(i), due[i]);
        }
        Due.is("behind the last", soup.trace(due.length), Due.NONE);
        Due.is("trace(-1)", soup.trace(-1), Due.NONE);
        int[][] beyond = {{1, 0}, {-1, 0}, {0, 4}, {0, -1}};
        for (int[] b : beyond) {
            Due.is("voice(" + b[0] + ", " + b[1] + ", 0)", soup.voice(b[0], b[1], 0), Due.BEYOND);
        }
        Due.is("THE TRACE stays", soup.count(10), due.length);
        soup.voice(0, 2, 1);
        Due.is("the latest alone", soup.count(10), 1);
        Due.is("12", soup.trace(0), 12);
        soup.become(0, 0);
        Due.is("an answer below LOW is no ERROR", soup.voice(0, 0, -1000000001), -1000000001);
        Due.is("told", soup.told(1), 4);
    }

    private static String traceOf(PeaSoup soup) {
        StringBuilder trace = new StringBuilder();
        int many = soup.count(10);
        for (int i = 0; i < many; i++) {
            trace.append(soup.trace(i)).append(' ');
        }
        return trace.toString();
    }

    private static int say(Jar jar, int act, int x) {
        switch (act) {
            case 0: return jar.lets(x);
            case 1: return jar.drifts(x);
            case 2: return jar.thins(x);
            default: return jar.tells(x);
        }
    }

    private static Jar made(int kind, int n, int m) {
        Jar[] kinds = {new Jar(), new Quart(), new Vintage(), new Drum(), new Headache(), new Scandal(), new Leak()};
        kinds[kind].n = n;
        kinds[kind].m = m;
        return kinds[kind];
    }

    private static void begin(int body) {
        TRACE.append(body).append(' ');
    }

    private static class Jar {
        int n;
        int m;
        int lets(int x) { begin(10); return x + n; }
        int drifts(int x) { begin(11); return lets(x) * 2; }
        int thins(int x) { begin(12); return x - m; }
        int tells(int x) { begin(13); return drifts(x) ^ thins(x); }
    }

    private static class Quart extends Jar {
        @Override int lets(int x) { begin(20); return super.lets(x) * 3; }
    }

    private static class Vintage extends Jar {
        @Override int drifts(int x) { begin(30); return super.drifts(x) - thins(1); }
    }

    private static class Drum extends Jar {
        @Override int thins(int x) { begin(40); return -super.thins(x); }
    }

    private static final class Headache extends Quart {
        @Override int tells(int x) { begin(50); return super.tells(x) - lets(2); }
    }

    private static final class Scandal extends Vintage {
        @Override int drifts(int x) { begin(60); return super.drifts(x + 1); }
    }

    private static final class Leak extends Drum {
        @Override int thins(int x) { begin(70); return super.thins(x) ^ n; }
        @Override int tells(int x) { begin(71); return drifts(x) - super.tells(x); }
    }
}
