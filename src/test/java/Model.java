import java.util.ArrayDeque;
import java.util.ArrayList;
import java.util.Arrays;
import java.util.List;

/**
 * The document a second time, in another manner (maps of rows and columns, a
 * tree of text, states copied whole), so that a slip in one is seen by the other.
 */
final class Model {
    static final int LOW = -1000000000;

    static final class Bottle {
        int kind, m, cell, fill, age, open;

        Bottle copy() {
            Bottle b = new Bottle();
            b.kind = kind;
            b.m = m;
            b.cell = cell;
            b.fill = fill;
            b.age = age;
            b.open = open;
            return b;
        }

        int lets() {
            int much = 10;
            if (kind == 1 || kind == 4) much += m;
            if (kind == 2 || kind == 5) much += age;
            if (kind == 3 || kind == 6) much = fill / 10 + 20;
            if (kind == 4) much *= 2;
            if (kind == 5 && age >= 10) much *= 5;
            return Math.max(0, Math.min(fill, much));
        }
    }

    static final class Place {
        int[][] fog = new int[4][4];
        int wind = 0, sight = 50, hour = 0, z = 1;
        List<Bottle> jars = new ArrayList<>();
        List<Integer> people = new ArrayList<>();
        String drifts = "f*w/20", thins = "w+1", tape = "";
        List<Integer> waiting = new ArrayList<>();

        Place copy() {
            Place p = new Place();
            for (int r = 0; r < 4; r++) p.fog[r] = fog[r].clone();
            p.wind = wind;
            p.sight = sight;
            p.hour = hour;
            p.z = z;
            for (Bottle b : jars) p.jars.add(b.copy());
            p.people.addAll(people);
            p.drifts = drifts;
            p.thins = thins;
            p.tape = tape;
            p.waiting.addAll(waiting);
            return p;
        }

        int at(int cell) {
            return fog[cell / 4][cell % 4];
        }

        int sum() {
            int all = 0;
            for (int[] row : fog) for (int v : row) all += v;
            return all;
        }

        int most() {
            int most = 0;
            for (int[] row : fog) for (int v : row) most = Math.max(most, v);
            return most;
        }

        Place pass(int n) {
            for (int i = 0; i < n; i++) hour();
            return this;
        }

        void hour() {
            for (Bottle b : jars) {
                int out = b.open == 1 || b.kind == 6 ? b.lets() : 0;
                b.fill -= out;
                fog[b.cell / 4][b.cell % 4] = Math.min(999, at(b.cell) + out);
                if (b.open == 0) b.age = Math.min(99, b.age + 1);
            }
            int[][] gives = new int[6][6];
            int[][] is = new int[6][6];
            for (int r = 0; r < 4; r++) {
                for (int c = 0; c < 4; c++) {
                    gives[r + 1][c + 1] = Math.min(fog[r][c] / 4, held(drifts, fog[r][c], wind, hour % 24));
                    is[r + 1][c + 1] = 1;
                }
            }
            for (int r = 1; r <= 4; r++) {
                for (int c = 1; c <= 4; c++) {
                    int next = is[r - 1][c] + is[r + 1][c] + is[r][c - 1] + is[r][c + 1];
                    int comes = gives[r - 1][c] + gives[r + 1][c] + gives[r][c - 1] + gives[r][c + 1];
                    int v = Math.min(999, fog[r - 1][c - 1] - next * gives[r][c] + comes);
                    fog[r - 1][c - 1] = Math.max(0, v - held(thins, v, wind, hour % 24));
                }
            }
            hour++;
        }

        boolean sees(int a, int b) {
            int ra = a / 4, ca = a % 4, rb = b / 4, cb = b % 4;
            if (ra != rb && ca != cb) return false;
            int all = at(a);
            while (ra != rb || ca != cb) {
                ra += Integer.signum(rb - ra);
                ca += Integer.signum(cb - ca);
                all += fog[ra][ca];
            }
            return all < sight;
        }

        boolean seenIn(int person, int cell) {
            for (int i = 0; i < people.size(); i++) if (i != person && sees(people.get(i), cell)) return true;
            return false;
        }

        boolean seen(int person) {
            return seenIn(person, people.get(person));
        }

        Place just(int set) {
            for (int i = 0; i < jars.size(); i++) jars.get(i).open = set >> i & 1;
            return this;
        }

        int draw() {
            z = (int) (z * 1103515245L + 12345L);
            return (int) ((z & 0xffffffffL) / 256);
        }
    }

    // ---- texts: worked out from the text itself each time

    private static String text;
    private static int pos, f, w, h;

    static int held(String law, int a, int b, int c) {
        text = law;
        pos = 0;
        f = a;
        w = b;
        h = c;
        int v = or(0);
        return v < 0 ? 0 : v > 999 ? 999 : v;
    }

    private static final class Fault extends RuntimeException {
        private static final long serialVersionUID = 1L;
    }

    /** -1: it is a TEXT. */
    static int fault(String tape) {
        text = tape;
        pos = 0;
        f = w = h = 1;
        try {
            or(0);
        } catch (Fault e) {
            return pos;
        }
        return pos == text.length() ? -1 : pos;
    }

    private static boolean next(String signs) {
        return pos < text.length() && signs.indexOf(text.charAt(pos)) >= 0;
    }

    private static int or(int open) {
        int v = and(open);
        while (next("|")) {
            pos++;
            int o = and(open);
            v = v != 0 | o != 0 ? 1 : 0;
        }
        return v;
    }

    private static int and(int open) {
        int v = compared(open);
        while (next("&")) {
            pos++;
            int o = compared(open);
            v = v != 0 & o != 0 ? 1 : 0;
        }
        return v;
    }

    private static int compared(int open) {
        int v = sum(open);
        if (!next("<=>")) return v;
        char sign = text.charAt(pos++);
        int way = Integer.compare(v, sum(open));
        return way == sign - '=' ? 1 : 0;
    }

    private static int sum(int open) {
        int v = product(open);
        while (next("+-")) v = text.charAt(pos++) == '+' ? v + product(open) : v - product(open);
        return v;
    }

    private static int product(int open) {
        int v = unit(open);
        while (next("*/%")) {
            char sign = text.charAt(pos++);
            int o = unit(open);
            v = sign == '*' ? v * o : o == 0 ? 0 : sign == '/' ? (int) ((long) v / o) : (int) ((long) v % o);
        }
        return v;
    }

    private static int unit(int open) {
        if (next("0123456789")) {
            int from = pos;
            while (pos - from < 4 && next("0123456789")) pos++;
            return Integer.parseInt(text.substring(from, pos));
        }
        if (next("f")) { pos++; return f; }
        if (next("w")) { pos++; return w; }
        if (next("h")) { pos++; return h; }
        if (!next("!(") || open == 5) throw new Fault();
        if (text.charAt(pos++) == '!') return unit(open + 1) == 0 ? 1 : 0;
        int v = or(open + 1);
        if (!next(")")) throw new Fault();
        pos++;
        return v;
    }

    // ---- the face

    Place now = new Place();
    Place kept = null;
    int images = 0;
    int[] told = new int[6];
    long[][] sheets = new long[4][];
    int[] bits = new int[4];
    List<Integer> trace = new ArrayList<>();

    private int err(int k) {
        told[k]++;
        return LOW - k;
    }

    private static boolean in(int v, int a, int b) {
        return a <= v && v <= b;
    }

    private boolean isJar(int j) {
        return in(j, 0, now.jars.size() - 1);
    }

    private boolean isOne(int p) {
        return in(p, 0, now.people.size() - 1);
    }

    int call(String name, int[] a, long word) {
        switch (name) {
            case "lay": case "fog": case "set": case "jar": case "ofJar": case "change": case "become": case "as":
                return city(name, a);
            case "person": case "walk": case "at": return people(name, a);
            case "feed": case "text": case "law": return texts(name, a, word);
            case "hours": case "loose": return hours(name, a[0]);
            case "then": case "thick": case "clear": case "lasts": case "first": return behind(name, a);
            case "sees": case "seen": case "way": case "lamp": return sight(name, a);
            case "hide": case "which": case "mix": case "odds": return sets(name, a);
            case "sheet": case "put": case "move": case "fogs": case "judge": return sheets(name, a);
            default: return rest(name, a);
        }
    }

    private int city(String name, int[] a) {
        int was;
        if (name.equals("lay")) {
            if (!in(a[0], 0, 15) || !in(a[1], 0, 999)) return err(1);
            was = now.at(a[0]);
            now.fog[a[0] / 4][a[0] % 4] = a[1];
            return was;
        }
        if (name.equals("fog")) return in(a[0], 0, 15) ? now.at(a[0]) : err(1);
        if (name.equals("set")) {
            if (a[0] == 0 && in(a[1], 0, 9)) { was = now.wind; now.wind = a[1]; return was; }
            if (a[0] == 1 && in(a[1], 1, 999)) { was = now.sight; now.sight = a[1]; return was; }
            return err(1);
        }
        if (name.equals("jar")) {
            if (!in(a[0], 0, 69) || !in(a[1], 0, 15) || !in(a[2], 0, 999)) return err(1);
            if (now.jars.size() == 6) return err(4);
            Bottle b = new Bottle();
            b.kind = a[0] / 10;
            b.m = a[0] % 10;
            b.cell = a[1];
            b.fill = a[2];
            now.jars.add(b);
            return now.jars.size() - 1;
        }
        if (!isJar(a[0])) return err(1);
        Bottle b = now.jars.get(a[0]);
        int[] of = {b.kind, b.m, b.cell, b.fill, b.age, b.open, b.lets()};
        if (name.equals("ofJar")) return in(a[1], 0, 6) ? of[a[1]] : err(1);
        if (name.equals("change")) {
            int[] most = {15, 999, 99, 1};
            if (!in(a[1], 0, 3) || !in(a[2], 0, most[a[1]])) return err(1);
            if (a[1] == 0) b.cell = a[2];
            if (a[1] == 1) b.fill = a[2];
            if (a[1] == 2) b.age = a[2];
            if (a[1] == 3) b.open = a[2];
            return of[a[1] + 2];
        }
        if (name.equals("become")) {
            if (!in(a[1], 0, 69)) return err(1);
            b.kind = a[1] / 10;
            b.m = a[1] % 10;
            return of[0];
        }
        if (!in(a[1], 0, 6)) return err(1);
        String[] tops = {"0", "10", "20", "30", "410", "520", "630"};
        return tops[b.kind].indexOf((char) ('0' + a[1])) >= 0 ? b.m : err(5);
    }

    private int people(String name, int[] a) {
        if (name.equals("person")) {
            if (!in(a[0], 0, 15)) return err(1);
            if (now.people.size() == 6) return err(4);
            now.people.add(a[0]);
            return now.people.size() - 1;
        }
        if (!isOne(a[0])) return err(1);
        if (name.equals("at")) return now.people.get(a[0]);
        return in(a[1], 0, 15) ? now.people.set(a[0], a[1]) : err(1);
    }

    private int texts(String name, int[] a, long word) {
        if (name.equals("feed")) {
            if (!in(a[0], 1, 8)) return err(1);
            if (now.tape.length() + a[0] > 50) return err(4);
            for (int i = 0; i < a[0]; i++) now.tape += (char) (word >> 8 * i & 255);
            return now.tape.length();
        }
        if (!in(a[0], 0, 1)) return err(1);
        if (name.equals("law")) return held(a[0] == 0 ? now.drifts : now.thins, a[1], a[2], a[3]);
        String tape = now.tape;
        now.tape = "";
        int fault = fault(tape);
        if (fault >= 0) return -10 - fault;
        if (a[0] == 0) now.drifts = tape; else now.thins = tape;
        return 1;
    }

    private int hours(String name, int n) {
        boolean loose = name.equals("loose");
        if (!in(n, 1, loose ? 40 : 60)) return err(1);
        if (now.hour > 9999 - n) return err(3);
        for (int i = 0; i < n; i++) {
            if (loose) {
                now.wind = now.draw() % 10;
                if (!now.people.isEmpty()) {
                    int d = now.draw();
                    now.people.set(d % now.people.size(), (d >> 3) & 15);
                }
            }
            now.hour();
        }
        return now.sum();
    }

    private int behind(String name, int[] a) {
        Place p = now.copy();
        if (name.equals("then")) {
            if (!in(a[0], 0, 60) || !in(a[1], 0, 15) || !in(a[2], 0, 1)) return err(1);
            p.pass(a[0]);
            return a[2] == 0 ? p.at(a[1]) : p.sum();
        }
        if (name.equals("thick")) {
            if (!in(a[0], 0, 60) || !in(a[1], 0, 1)) return err(1);
            p.pass(a[0]);
            if (a[1] == 1) return p.most();
            int cell = 0;
            while (p.at(cell) != p.most()) cell++;
            return cell;
        }
        boolean right = name.equals("clear") ? in(a[0], 0, 999) : name.equals("lasts") ? isJar(a[0]) : isOne(a[0]);
        if (!right) return err(1);
        for (int n = 0; n <= 60; n++) {
            Place q = now.copy().pass(n);
            boolean so = name.equals("clear") ? q.most() <= a[0]
                : name.equals("lasts") ? q.jars.get(a[0]).fill == 0 : q.seen(a[0]);
            if (so) return n;
        }
        return err(2);
    }

    private int sight(String name, int[] a) {
        if (name.equals("sees")) {
            if (!isOne(a[0]) || !isOne(a[1]) || a[0] == a[1]) return err(1);
            return now.sees(now.people.get(a[0]), now.people.get(a[1])) ? 1 : 0;
        }
        if (name.equals("seen")) {
            int set = 0;
            for (int i = 0; i < now.people.size(); i++) if (now.seen(i)) set += 1 << i;
            return set;
        }
        if (name.equals("lamp")) {
            if (!in(a[0], 0, 1)) return err(1);
            int best = -1, most = -1;
            for (int cell = 0; cell < 16; cell++) {
                int many = 0;
                for (int p : now.people) if (now.sees(cell, p)) many++;
                if (many > most) { most = many; best = cell; }
            }
            return a[0] == 0 ? best : most;
        }
        if (!isOne(a[0]) || !in(a[1], 0, 15)) return err(1);
        int[] far = new int[16];
        Arrays.fill(far, -1);
        ArrayDeque<Integer> line = new ArrayDeque<>();
        line.add(now.people.get(a[0]));
        far[line.peek()] = 0;
        while (!line.isEmpty()) {
            int c = line.poll();
            for (int d = 0; d < 16; d++) {
                boolean next = Math.abs(c / 4 - d / 4) + Math.abs(c % 4 - d % 4) == 1;
                if (next && far[d] < 0 && !now.seenIn(a[0], d)) {
                    far[d] = far[c] + 1;
                    line.add(d);
                }
            }
        }
        return far[a[1]] < 0 ? err(2) : far[a[1]];
    }

    private int sets(String name, int[] a) {
        int all = 1 << now.jars.size();
        if (name.equals("hide")) {
            if (!isOne(a[0]) || !in(a[1], 0, 20)) return err(1);
            int best = -1;
            for (int set = 0; set < all; set++) {
                Place p = now.copy();
                for (int i = 0; i < p.jars.size(); i++) if ((set >> i & 1) == 1) p.jars.get(i).open = 1;
                boolean hidden = true;
                for (int n = 1; n <= a[1]; n++) hidden &= !p.pass(1).seen(a[0]);
                if (hidden && (best < 0 || Integer.bitCount(set) < Integer.bitCount(best))) best = set;
            }
            return best < 0 ? err(2) : best;
        }
        if (name.equals("which")) {
            if (!in(a[0], 0, 3) || !in(a[1], 0, 1)) return err(1);
            if (sheets[a[0]] == null || sheets[a[0]].length != 16) return err(2);
            int many = 0, least = -1;
            for (int set = all - 1; set >= 0; set--) {
                Place p = now.copy().just(set).pass(1);
                boolean so = true;
                for (int c = 0; c < 16; c++) so &= p.at(c) == sheets[a[0]][c];
                if (so) { many++; least = set; }
            }
            return a[1] == 0 ? many : least < 0 ? err(2) : least;
        }
        if (name.equals("mix")) {
            if (!in(a[0], 0, 15) || !in(a[1], 0, 999) || !in(a[2], 0, 1)) return err(1);
            int best = -1, fog = 0;
            for (int set = all - 1; set >= 0; set--) {
                int v = now.copy().just(set).pass(1).at(a[0]);
                if (best < 0 || Math.abs(v - a[1]) <= Math.abs(fog - a[1])) { best = set; fog = v; }
            }
            return a[2] == 0 ? best : fog;
        }
        if (!isOne(a[0]) || !in(a[1], 0, 60) || !in(a[2], 0, 1)) return err(1);
        int many = 0;
        for (int wind = 0; wind < 10; wind++) {
            Place p = now.copy();
            p.wind = wind;
            if (!p.pass(a[1]).seen(a[0])) many++;
        }
        int[] above = {0, 1, 1, 3, 2, 1, 3, 7, 4, 9, 1};
        int[] below = {1, 10, 5, 10, 5, 2, 5, 10, 5, 10, 1};
        return a[2] == 0 ? above[many] : below[many];
    }

    private int sheets(String name, int[] a) {
        if (!in(a[0], 0, 3)) return err(1);
        if (name.equals("sheet")) {
            if (a[1] == 0) { sheets[a[0]] = null; return 1; }
            if (a[1] != 8 && a[1] != 16 && a[1] != 32) return err(1);
            if (a[2] < 0) return err(3);
            if (a[2] > 40) return err(1);
            sheets[a[0]] = new long[a[2]];
            bits[a[0]] = a[1];
            return 1;
        }
        if (name.equals("move")) {
            if (!in(a[2], 0, 3)) return err(1);
            if (sheets[a[0]] == null || sheets[a[2]] == null) return err(2);
            if (bits[a[0]] != bits[a[2]]) return err(5);
            long i = a[1], j = a[3], n = a[4];
            if (n < 0 || i < 0 || j < 0 || i + n > sheets[a[0]].length || j + n > sheets[a[2]].length) return err(1);
            long[] were = sheets[a[0]].clone();
            for (int k = 0; k < n; k++) sheets[a[2]][(int) j + k] = were[(int) i + k];
            return a[4];
        }
        long[] row = sheets[a[0]];
        if (row == null) return err(2);
        if (name.equals("put")) {
            if (!in(a[1], 0, row.length - 1)) return err(1);
            int off = 32 - bits[a[0]];
            row[a[1]] = a[2] << off >> off;
            return 1;
        }
        int i = 0;
        if (name.equals("fogs")) {
            while (i < row.length && i < 16 && row[i] >= 0 && row[i] <= 999) {
                now.fog[i / 4][i % 4] = (int) row[i];
                i++;
            }
            return i;
        }
        while (i < row.length && i < now.jars.size() && row[i] == now.jars.get(i).fill) i++;
        return i == row.length && i == now.jars.size() ? -1 : i;
    }

    private int rest(String name, int[] a) {
        switch (name) {
            case "seed": { int was = now.z; now.z = a[0]; return was; }
            case "image": kept = now.copy(); return ++images;
            case "restore":
                if (kept == null) return err(2);
                now = kept.copy();
                return now.hour;
            case "tell":
                if (now.waiting.size() == 20) return err(4);
                now.waiting.add(a[0]);
                return now.waiting.size();
            case "check": {
                List<Integer> were = now.waiting;
                now.waiting = new ArrayList<>();
                for (int i = 0; i < were.size(); i++) {
                    if (now.copy().pass(i + 1).sum() != were.get(i)) return i + 1;
                }
                return 0;
            }
            case "count": return in(a[0], 0, 11) ? counted(a[0]) : err(1);
            case "told": return in(a[0], 1, 5) ? told[a[0]] : err(1);
            case "voice":
                if (!isJar(a[0]) || !in(a[1], 0, 3)) return err(1);
                trace.clear();
                return say(now.jars.get(a[0]).kind, a[1], a[2], a[0]);
            default: return in(a[0], 0, Math.min(40, trace.size()) - 1) ? trace.get(a[0]) : err(2);
        }
    }

    private int counted(int what) {
        int fills = 0, open = 0;
        for (int i = 0; i < now.jars.size(); i++) {
            fills += now.jars.get(i).fill;
            open += now.jars.get(i).open << i;
        }
        int[] all = {now.jars.size(), now.people.size(), now.hour, now.wind, now.sight, now.sum(), fills, open,
            now.tape.length(), now.waiting.size(), Math.min(40, trace.size()), now.z};
        return all[what];
    }

    /** One KIND's voice, with super calls written out by hand for each KIND. */
    private int say(int kind, int act, int x, int jar) {
        int m = now.jars.get(jar).m;
        if (act == 0) {
            if (kind == 1 || kind == 4) {
                trace.addAll(List.of(20, 10));
                return (x + jar) * 3;
            }
            trace.add(10);
            return x + jar;
        }
        if (act == 1) {
            int y = x;
            if (kind == 5) { trace.add(60); y++; }
            if (kind == 2 || kind == 5) trace.add(30);
            trace.add(11);
            int v = say(kind, 0, y, jar) * 2;
            return kind == 2 || kind == 5 ? v - say(kind, 2, 1, jar) : v;
        }
        if (act == 2) {
            if (kind == 6) trace.add(70);
            if (kind == 3 || kind == 6) trace.add(40);
            trace.add(12);
            int v = kind == 3 || kind == 6 ? m - x : x - m;
            return kind == 6 ? v ^ jar : v;
        }
        if (kind == 4) trace.add(50);
        if (kind == 6) trace.add(71);
        int ahead = kind == 6 ? say(kind, 1, x, jar) : 0;
        trace.add(13);
        int left = say(kind, 1, x, jar);
        int v = left ^ say(kind, 2, x, jar);
        if (kind == 4) return v - say(kind, 0, 2, jar);
        return kind == 6 ? ahead - v : v;
    }
}
