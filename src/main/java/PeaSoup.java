import java.util.Arrays;

/** A city in fog, its jars and its people, as ../shared/DOC.md tells. */
public final class PeaSoup {
    private static final int LOW = -1000000000;
    private static final int BEYOND = 1;
    private static final int NONE = 2;
    private static final int STATE = 3;
    private static final int FULL = 4;
    private static final int KIND = 5;

    private static final int CELLS = 16;
    private static final int SIDE = 4;
    private static final int MOST = 999;
    private static final int LAST_HOUR = 9999;
    private static final int FARTHEST = 60;
    private static final int WINDS = 10;
    private static final int MOST_JARS = 6;
    private static final int MOST_PEOPLE = 6;
    private static final int OLDEST = 99;
    private static final int TAPE_ROOM = 50;
    private static final int WAITING_ROOM = 20;
    private static final int SHEETS = 4;
    private static final int SHEET_ROOM = 40;
    private static final int TRACE_ROOM = 40;
    private static final int USES = 2;

    private static final int QUART = 1;
    private static final int VINTAGE = 2;
    private static final int DRUM = 3;
    private static final int HEADACHE = 4;
    private static final int SCANDAL = 5;
    private static final int LEAK = 6;
    private static final int KINDS = 7;
    /** The KIND above each KIND; -1 above JAR. */
    private static final int[] ABOVE = {-1, 0, 0, 0, QUART, VINTAGE, DRUM};

    /** f*w/20 and w+1, in the order in which a Law works them out. */
    private static final int[] DRIFTS_AT_FIRST = {-'f', -'w', -'*', 20, -'/'};
    private static final int[] THINS_AT_FIRST = {-'w', 1, -'+'};

    private final Reader reader = new Reader();
    private final City city = new City(new Law(DRIFTS_AT_FIRST, DRIFTS_AT_FIRST.length),
            new Law(THINS_AT_FIRST, THINS_AT_FIRST.length));
    private final City keptCity = new City(city.drifts, city.thins);
    private final Thoughts thoughts = new Thoughts(city);
    private final Desk desk = new Desk();
    private final Desk keptDesk = new Desk();
    private final Voices voices = new Voices();
    private final Sheet[] sheets = new Sheet[SHEETS];
    private final int[] errors = new int[KIND + 1];
    private int images = 0;

    public PeaSoup() {
        for (int i = 0; i < SHEETS; i++) {
            sheets[i] = new Sheet();
        }
    }

    // ---- the city, jars, people

    public int lay(int cell, int v) {
        if (!isCell(cell) || !isAmount(v)) {
            return error(BEYOND);
        }
        int was = city.fogOf[cell];
        city.fogOf[cell] = v;
        return was;
    }

    public int fog(int cell) {
        return isCell(cell) ? city.fogOf[cell] : error(BEYOND);
    }

    public int set(int what, int v) {
        if (what == 0 && within(v, 0, WINDS - 1)) {
            int was = city.wind;
            city.wind = v;
            return was;
        }
        if (what == 1 && within(v, 1, MOST)) {
            int was = city.sight;
            city.sight = v;
            return was;
        }
        return error(BEYOND);
    }

    public int jar(int km, int cell, int fill) {
        if (!isKindAndMark(km) || !isCell(cell) || !isAmount(fill)) {
            return error(BEYOND);
        }
        if (city.jarCount >= MOST_JARS) {
            return error(FULL);
        }
        Jar made = city.jars[city.jarCount];
        made.kind = km / 10;
        made.mark = km % 10;
        made.cell = cell;
        made.fill = fill;
        made.age = 0;
        made.open = false;
        city.jarCount++;
        return city.jarCount - 1;
    }

    public int ofJar(int jar, int what) {
        if (!isJar(jar)) {
            return error(BEYOND);
        }
        Jar one = city.jars[jar];
        switch (what) {
            case 0: return one.kind;
            case 1: return one.mark;
            case 2: return one.cell;
            case 3: return one.fill;
            case 4: return one.age;
            case 5: return asNumber(one.open);
            case 6: return one.letsWereItOpen();
            default: return error(BEYOND);
        }
    }

    public int change(int jar, int what, int v) {
        if (!isJar(jar) || !isChange(what, v)) {
            return error(BEYOND);
        }
        Jar one = city.jars[jar];
        int was;
        switch (what) {
            case 0:
                was = one.cell;
                one.cell = v;
                return was;
            case 1:
                was = one.fill;
                one.fill = v;
                return was;
            case 2:
                was = one.age;
                one.age = v;
                return was;
            default:
                was = asNumber(one.open);
                one.open = v == 1;
                return was;
        }
    }

    public int become(int jar, int km) {
        if (!isJar(jar) || !isKindAndMark(km)) {
            return error(BEYOND);
        }
        Jar one = city.jars[jar];
        int was = one.kind;
        one.kind = km / 10;
        one.mark = km % 10;
        return was;
    }

    public int as(int jar, int kind) {
        if (!isJar(jar) || !within(kind, 0, KINDS - 1)) {
            return error(BEYOND);
        }
        Jar one = city.jars[jar];
        return isUnder(one.kind, kind) ? one.mark : error(KIND);
    }

    public int person(int cell) {
        if (!isCell(cell)) {
            return error(BEYOND);
        }
        if (city.peopleCount >= MOST_PEOPLE) {
            return error(FULL);
        }
        city.cellOf[city.peopleCount] = cell;
        city.peopleCount++;
        return city.peopleCount - 1;
    }

    public int walk(int person, int cell) {
        if (!isPerson(person) || !isCell(cell)) {
            return error(BEYOND);
        }
        int was = city.cellOf[person];
        city.cellOf[person] = cell;
        return was;
    }

    public int at(int person) {
        return isPerson(person) ? city.cellOf[person] : error(BEYOND);
    }

    // ---- texts

    public int feed(long word, int n) {
        if (!within(n, 1, 8)) {
            return error(BEYOND);
        }
        if (desk.tapeLength + n > TAPE_ROOM) {
            return error(FULL);
        }
        for (int i = 0; i < n; i++) {
            desk.tape[desk.tapeLength + i] = (byte) (word >>> (8 * i));
        }
        desk.tapeLength += n;
        return desk.tapeLength;
    }

    public int text(int use) {
        if (!within(use, 0, USES - 1)) {
            return error(BEYOND);
        }
        Law law = reader.read(desk.tape, desk.tapeLength);
        desk.tapeLength = 0;
        if (law == null) {
            return -10 - reader.place;
        }
        if (use == 0) {
            city.drifts = law;
        } else {
            city.thins = law;
        }
        return 1;
    }

    public int law(int use, int a, int b, int c) {
        if (!within(use, 0, USES - 1)) {
            return error(BEYOND);
        }
        Law asked = use == 0 ? city.drifts : city.thins;
        return asked.gives(a, b, c);
    }

    // ---- hours

    public int hours(int n) {
        if (!within(n, 1, FARTHEST)) {
            return error(BEYOND);
        }
        if (city.hour + n > LAST_HOUR) {
            return error(STATE);
        }
        city.passHours(n);
        return city.allFog();
    }

    public int loose(int n) {
        if (!within(n, 1, 40)) {
            return error(BEYOND);
        }
        if (city.hour + n > LAST_HOUR) {
            return error(STATE);
        }
        for (int i = 0; i < n; i++) {
            drawWindAndPerson();
            city.passHour();
        }
        return city.allFog();
    }

    // ---- what would be

    public int then(int n, int cell, int what) {
        if (!isBehind(n) || !isCell(cell) || !isZeroOrOne(what)) {
            return error(BEYOND);
        }
        City would = thoughts.behind(n);
        return what == 0 ? would.fogOf[cell] : would.allFog();
    }

    public int sees(int one, int other) {
        if (!isPerson(one) || !isPerson(other) || one == other) {
            return error(BEYOND);
        }
        return asNumber(city.inSight(city.cellOf[one], city.cellOf[other]));
    }

    public int seen() {
        int those = 0;
        for (int i = 0; i < city.peopleCount; i++) {
            if (city.isSeen(i)) {
                those |= 1 << i;
            }
        }
        return those;
    }

    public int first(int person) {
        return isPerson(person) ? orNone(thoughts.firstSeen(person)) : error(BEYOND);
    }

    public int hide(int person, int n) {
        if (!isPerson(person) || !within(n, 0, 20)) {
            return error(BEYOND);
        }
        return orNone(thoughts.fewestThatHide(person, n));
    }

    public int which(int sheet, int what) {
        if (!isSheet(sheet) || !isZeroOrOne(what)) {
            return error(BEYOND);
        }
        Sheet row = sheets[sheet];
        if (row.isMissing() || row.length != CELLS) {
            return error(NONE);
        }
        return what == 0 ? thoughts.howManyGive(row) : orNone(thoughts.leastThatGives(row));
    }

    public int thick(int n, int what) {
        if (!isBehind(n) || !isZeroOrOne(what)) {
            return error(BEYOND);
        }
        City would = thoughts.behind(n);
        int cell = would.thickest();
        return what == 0 ? cell : would.fogOf[cell];
    }

    public int clear(int v) {
        return isAmount(v) ? orNone(thoughts.firstClear(v)) : error(BEYOND);
    }

    public int lasts(int jar) {
        return isJar(jar) ? orNone(thoughts.firstEmpty(jar)) : error(BEYOND);
    }

    public int way(int person, int cell) {
        if (!isPerson(person) || !isCell(cell)) {
            return error(BEYOND);
        }
        return orNone(thoughts.unseenSteps(person, cell));
    }

    public int lamp(int what) {
        if (!isZeroOrOne(what)) {
            return error(BEYOND);
        }
        int best = 0;
        for (int cell = 1; cell < CELLS; cell++) {
            if (city.shownFrom(cell) > city.shownFrom(best)) {
                best = cell;
            }
        }
        return what == 0 ? best : city.shownFrom(best);
    }

    public int mix(int cell, int v, int what) {
        if (!isCell(cell) || !isAmount(v) || !isZeroOrOne(what)) {
            return error(BEYOND);
        }
        int best = thoughts.nearest(cell, v);
        return what == 0 ? best : thoughts.withJust(best).fogOf[cell];
    }

    public int odds(int person, int n, int part) {
        if (!isPerson(person) || !isBehind(n) || !isZeroOrOne(part)) {
            return error(BEYOND);
        }
        int winds = thoughts.windsThatHide(person, n);
        int common = commonDivisor(WINDS, winds);
        return (part == 0 ? winds : WINDS) / common;
    }

    // ---- draws, voices, sheets, images, what is told

    public int seed(int v) {
        int was = desk.z;
        desk.z = v;
        return was;
    }

    public int voice(int jar, int act, int x) {
        if (!isJar(jar) || !within(act, 0, Voices.ACTS - 1)) {
            return error(BEYOND);
        }
        return voices.speak(jar, city.jars[jar], act, x);
    }

    public int trace(int i) {
        return within(i, 0, voices.begun - 1) ? voices.bodies[i] : error(NONE);
    }

    public int sheet(int sheet, int bits, int n) {
        if (!isSheet(sheet) || (bits != 0 && bits != 8 && bits != 16 && bits != 32)) {
            return error(BEYOND);
        }
        if (bits != 0 && n < 0) {
            return error(STATE);
        }
        if (bits != 0 && n > SHEET_ROOM) {
            return error(BEYOND);
        }
        sheets[sheet].begin(bits, bits == 0 ? 0 : n);
        return 1;
    }

    public int put(int sheet, int i, int v) {
        if (!isSheet(sheet)) {
            return error(BEYOND);
        }
        Sheet row = sheets[sheet];
        if (row.isMissing()) {
            return error(NONE);
        }
        if (!within(i, 0, row.length - 1)) {
            return error(BEYOND);
        }
        row.numbers[i] = row.lowestBits(v);
        return 1;
    }

    public int move(int sheet, int i, int other, int j, int n) {
        if (!isSheet(sheet) || !isSheet(other)) {
            return error(BEYOND);
        }
        Sheet from = sheets[sheet];
        Sheet to = sheets[other];
        if (from.isMissing() || to.isMissing()) {
            return error(NONE);
        }
        if (from.bits != to.bits) {
            return error(KIND);
        }
        if (!from.hasRun(i, n) || !to.hasRun(j, n)) {
            return error(BEYOND);
        }
        System.arraycopy(from.numbers, i, to.numbers, j, n);
        return n;
    }

    public int fogs(int sheet) {
        if (!isSheet(sheet)) {
            return error(BEYOND);
        }
        Sheet row = sheets[sheet];
        if (row.isMissing()) {
            return error(NONE);
        }
        int most = Math.min(row.length, CELLS);
        for (int i = 0; i < most; i++) {
            if (!isAmount(row.numbers[i])) {
                return i;
            }
            city.fogOf[i] = row.numbers[i];
        }
        return most;
    }

    public int judge(int sheet) {
        if (!isSheet(sheet)) {
            return error(BEYOND);
        }
        Sheet row = sheets[sheet];
        if (row.isMissing()) {
            return error(NONE);
        }
        int both = Math.min(row.length, city.jarCount);
        for (int i = 0; i < both; i++) {
            if (row.numbers[i] != city.jars[i].fill) {
                return i;
            }
        }
        return row.length == city.jarCount ? -1 : both;
    }

    public int image() {
        keptCity.copyFrom(city);
        keptDesk.copyFrom(desk);
        images++;
        return images;
    }

    public int restore() {
        if (images == 0) {
            return error(NONE);
        }
        city.copyFrom(keptCity);
        desk.copyFrom(keptDesk);
        return city.hour;
    }

    public int tell(int v) {
        if (desk.waitingCount >= WAITING_ROOM) {
            return error(FULL);
        }
        desk.waiting[desk.waitingCount] = v;
        desk.waitingCount++;
        return desk.waitingCount;
    }

    public int check() {
        int many = desk.waitingCount;
        desk.waitingCount = 0;
        City would = thoughts.behind(0);
        for (int i = 0; i < many; i++) {
            would.passHour();
            if (would.allFog() != desk.waiting[i]) {
                return 1 + i;
            }
        }
        return 0;
    }

    public int count(int what) {
        switch (what) {
            case 0: return city.jarCount;
            case 1: return city.peopleCount;
            case 2: return city.hour;
            case 3: return city.wind;
            case 4: return city.sight;
            case 5: return city.allFog();
            case 6: return city.allFills();
            case 7: return city.openJars();
            case 8: return desk.tapeLength;
            case 9: return desk.waitingCount;
            case 10: return voices.begun;
            case 11: return desk.z;
            default: return error(BEYOND);
        }
    }

    public int told(int k) {
        return within(k, BEYOND, KIND) ? errors[k] : error(BEYOND);
    }

    // ---- what the acts above share

    private int error(int k) {
        errors[k]++;
        return LOW - k;
    }

    /** Thoughts answer -1 where there is nothing to find. */
    private int orNone(int found) {
        return found < 0 ? error(NONE) : found;
    }

    private void drawWindAndPerson() {
        city.wind = desk.draw() % WINDS;
        if (city.peopleCount > 0) {
            int drawn = desk.draw();
            city.cellOf[drawn % city.peopleCount] = drawn / 8 % CELLS;
        }
    }

    private boolean isJar(int jar) {
        return within(jar, 0, city.jarCount - 1);
    }

    private boolean isPerson(int person) {
        return within(person, 0, city.peopleCount - 1);
    }

    private static boolean within(int v, int least, int most) {
        return v >= least && v <= most;
    }

    private static boolean isCell(int cell) {
        return within(cell, 0, CELLS - 1);
    }

    private static boolean isAmount(int v) {
        return within(v, 0, MOST);
    }

    private static boolean isKindAndMark(int km) {
        return within(km, 0, 10 * KINDS - 1);
    }

    private static boolean isBehind(int n) {
        return within(n, 0, FARTHEST);
    }

    private static boolean isZeroOrOne(int v) {
        return within(v, 0, 1);
    }

    private static boolean isSheet(int sheet) {
        return within(sheet, 0, SHEETS - 1);
    }

    private static boolean isChange(int what, int v) {
        switch (what) {
            case 0: return isCell(v);
            case 1: return isAmount(v);
            case 2: return within(v, 0, OLDEST);
            case 3: return isZeroOrOne(v);
            default: return false;
        }
    }

    private static boolean isUnder(int kind, int top) {
        int at = kind;
        for (int i = 0; i < KINDS && at >= 0; i++) {
            if (at == top) {
                return true;
            }
            at = ABOVE[at];
        }
        return false;
    }

    private static int asNumber(boolean yes) {
        return yes ? 1 : 0;
    }

    /** Of a number above 0 and one not below 0: at least 1. */
    private static int commonDivisor(int whole, int part) {
        int high = whole;
        int low = part;
        for (int i = 0; i < whole && low > 0; i++) {
            int rest = high % low;
            high = low;
            low = rest;
        }
        return Math.max(1, high);
    }

    /** One JAR. */
    private static final class Jar {
        int kind = 0;
        int mark = 0;
        int cell = 0;
        int fill = 0;
        int age = 0;
        boolean open = false;

        void copyFrom(Jar other) {
            kind = other.kind;
            mark = other.mark;
            cell = other.cell;
            fill = other.fill;
            age = other.age;
            open = other.open;
        }

        int letsWereItOpen() {
            return Math.min(fill, letsOfKind());
        }

        private int letsOfKind() {
            switch (kind) {
                case QUART: return 10 + mark;
                case VINTAGE: return 10 + age;
                case DRUM: return fill / 10 + 20;
                case HEADACHE: return 2 * (10 + mark);
                case SCANDAL: return age > 9 ? 5 * (10 + age) : 10 + age;
                case LEAK: return fill / 10 + 20;
                default: return 10;
            }
        }
    }

    /** CELLS, JARS, PEOPLE and the TEXTS by which an HOUR goes. */
    private static final class City {
        final int[] fogOf = new int[CELLS];
        /** FOG as it comes to lie while it drifts: a row that each HOUR uses again. */
        final int[] drifted = new int[CELLS];
        final Jar[] jars = new Jar[MOST_JARS];
        final int[] cellOf = new int[MOST_PEOPLE];
        int jarCount = 0;
        int peopleCount = 0;
        int wind = 0;
        int sight = 50;
        int hour = 0;
        Law drifts;
        Law thins;

        City(Law drifts, Law thins) {
            this.drifts = drifts;
            this.thins = thins;
            for (int i = 0; i < MOST_JARS; i++) {
                jars[i] = new Jar();
            }
        }

        void copyFrom(City other) {
            System.arraycopy(other.fogOf, 0, fogOf, 0, CELLS);
            System.arraycopy(other.cellOf, 0, cellOf, 0, MOST_PEOPLE);
            for (int i = 0; i < other.jarCount; i++) {
                jars[i].copyFrom(other.jars[i]);
            }
            jarCount = other.jarCount;
            peopleCount = other.peopleCount;
            wind = other.wind;
            sight = other.sight;
            hour = other.hour;
            drifts = other.drifts;
            thins = other.thins;
        }

        void passHours(int n) {
            for (int i = 0; i < n; i++) {
                passHour();
            }
        }

        void passHour() {
            for (int i = 0; i < jarCount; i++) {
                letOut(jars[i]);
            }
            driftAll();
            thinAll();
            hour++;
        }

        private void letOut(Jar jar) {
            int out = jar.open || jar.kind == LEAK ? jar.letsWereItOpen() : 0;
            jar.fill -= out;
            fogOf[jar.cell] = Math.min(MOST, fogOf[jar.cell] + out);
            if (!jar.open) {
                jar.age = Math.min(OLDEST, jar.age + 1);
            }
        }

        private void driftAll() {
            System.arraycopy(fogOf, 0, drifted, 0, CELLS);
            for (int cell = 0; cell < CELLS; cell++) {
                int quarter = fogOf[cell] / 4;
                // Below 4 nothing can be given, so the TEXT needn't be worked out.
                if (quarter > 0) {
                    giveToNext(cell, Math.min(quarter, drifts.gives(fogOf[cell], wind, hour % 24)));
                }
            }
            for (int cell = 0; cell < CELLS; cell++) {
                fogOf[cell] = Math.min(MOST, drifted[cell]);
            }
        }

        private void giveToNext(int cell, int part) {
            for (int side = 0; side < 4; side++) {
                int next = nextTo(cell, side);
                if (next >= 0) {
                    drifted[cell] -= part;
                    drifted[next] += part;
                }
            }
        }

        private void thinAll() {
            for (int cell = 0; cell < CELLS; cell++) {
                if (fogOf[cell] > 0) {
                    int less = thins.gives(fogOf[cell], wind, hour % 24);
                    fogOf[cell] = Math.max(0, fogOf[cell] - less);
                }
            }
        }

        /** The CELL above, below, left or right (side 0 to 3) of one; -1: there is none. */
        static int nextTo(int cell, int side) {
            switch (side) {
                case 0: return cell >= SIDE ? cell - SIDE : -1;
                case 1: return cell < CELLS - SIDE ? cell + SIDE : -1;
                case 2: return cell % SIDE > 0 ? cell - 1 : -1;
                default: return cell % SIDE < SIDE - 1 ? cell + 1 : -1;
            }
        }

        boolean inSight(int one, int other) {
            int step;
            if (one / SIDE == other / SIDE) {
                step = 1;
            } else if (one % SIDE == other % SIDE) {
                step = SIDE;
            } else {
                return false;
            }
            int together = 0;
            int last = Math.max(one, other);
            for (int cell = Math.min(one, other); cell <= last; cell += step) {
                together += fogOf[cell];
            }
            return together < sight;
        }

        boolean isSeen(int person) {
            return wouldBeSeen(person, cellOf[person]);
        }

        boolean wouldBeSeen(int person, int cell) {
            for (int i = 0; i < peopleCount; i++) {
                if (i != person && inSight(cell, cellOf[i])) {
                    return true;
                }
            }
            return false;
        }

        int shownFrom(int cell) {
            int shown = 0;
            for (int i = 0; i < peopleCount; i++) {
                shown += asNumber(inSight(cell, cellOf[i]));
            }
            return shown;
        }

        int thickest() {
            int best = 0;
            for (int cell = 1; cell < CELLS; cell++) {
                if (fogOf[cell] > fogOf[best]) {
                    best = cell;
                }
            }
            return best;
        }

        int allFog() {
            int all = 0;
            for (int cell = 0; cell < CELLS; cell++) {
                all += fogOf[cell];
            }
            return all;
        }

        int allFills() {
            int all = 0;
            for (int i = 0; i < jarCount; i++) {
                all += jars[i].fill;
            }
            return all;
        }

        int openJars() {
            int those = 0;
            for (int i = 0; i < jarCount; i++) {
                if (jars[i].open) {
                    those |= 1 << i;
                }
            }
            return those;
        }

        void openJust(int those) {
            for (int i = 0; i < jarCount; i++) {
                jars[i].open = (those >> i & 1) == 1;
            }
        }
    }

    /** What would be: a second city that stands in for the first, which stays as it is. */
    private static final class Thoughts {
        final City real;
        final City would;
        final int[] steps = new int[CELLS];

        Thoughts(City real) {
            this.real = real;
            this.would = new City(real.drifts, real.thins);
        }

        City behind(int n) {
            would.copyFrom(real);
            would.passHours(n);
            return would;
        }

        City withJust(int those) {
            would.copyFrom(real);
            would.openJust(those);
            would.passHour();
            return would;
        }

        int firstSeen(int person) {
            would.copyFrom(real);
            for (int n = 0; n <= FARTHEST; n++) {
                if (would.isSeen(person)) {
                    return n;
                }
                would.passHour();
            }
            return -1;
        }

        int firstClear(int v) {
            would.copyFrom(real);
            for (int n = 0; n <= FARTHEST; n++) {
                if (would.fogOf[would.thickest()] <= v) {
                    return n;
                }
                would.passHour();
            }
            return -1;
        }

        int firstEmpty(int jar) {
            would.copyFrom(real);
            for (int n = 0; n <= FARTHEST; n++) {
                if (would.jars[jar].fill == 0) {
                    return n;
                }
                would.passHour();
            }
            return -1;
        }

        int fewestThatHide(int person, int n) {
            int sets = 1 << real.jarCount;
            for (int size = 0; size <= real.jarCount; size++) {
                for (int those = 0; those < sets; those++) {
                    if (Integer.bitCount(those) == size && staysUnseen(person, n, those)) {
                        return those;
                    }
                }
            }
            return -1;
        }

        private boolean staysUnseen(int person, int n, int opened) {
            would.copyFrom(real);
            would.openJust(opened | real.openJars());
            for (int i = 0; i < n; i++) {
                would.passHour();
                if (would.isSeen(person)) {
                    return false;
                }
            }
            return true;
        }

        int howManyGive(Sheet row) {
            int sets = 1 << real.jarCount;
            int many = 0;
            for (int those = 0; those < sets; those++) {
                many += asNumber(row.isFogOf(withJust(those)));
            }
            return many;
        }

        int leastThatGives(Sheet row) {
            int sets = 1 << real.jarCount;
            for (int those = 0; those < sets; those++) {
                if (row.isFogOf(withJust(those))) {
                    return those;
                }
            }
            return -1;
        }

        int nearest(int cell, int v) {
            int sets = 1 << real.jarCount;
            int best = 0;
            int least = MOST + 1;
            for (int those = 0; those < sets; those++) {
                int apart = Math.abs(withJust(those).fogOf[cell] - v);
                if (apart < least) {
                    least = apart;
                    best = those;
                }
            }
            return best;
        }

        int windsThatHide(int person, int n) {
            int many = 0;
            for (int wind = 0; wind < WINDS; wind++) {
                would.copyFrom(real);
                would.wind = wind;
                would.passHours(n);
                many += asNumber(!would.isSeen(person));
            }
            return many;
        }

        int unseenSteps(int person, int goal) {
            Arrays.fill(steps, -1);
            steps[real.cellOf[person]] = 0;
            for (int step = 1; step < CELLS && steps[goal] < 0; step++) {
                for (int cell = 0; cell < CELLS; cell++) {
                    if (steps[cell] < 0 && isReached(cell, step - 1) && !real.wouldBeSeen(person, cell)) {
                        steps[cell] = step;
                    }
                }
            }
            return steps[goal];
        }

        private boolean isReached(int cell, int from) {
            for (int side = 0; side < 4; side++) {
                int next = City.nextTo(cell, side);
                if (next >= 0 && steps[next] == from) {
                    return true;
                }
            }
            return false;
        }
    }

    /**
     * A TEXT in the order in which it is worked out: what stands on both sides
     * of a sign, then the sign. NUMBERS stand as they are; signs and NAMES
     * below 0, so that none is taken for a NUMBER.
     */
    private static final class Law {
        final int[] code;
        final int[] stack;

        Law(int[] signs, int length) {
            code = Arrays.copyOf(signs, length);
            stack = new int[length];
        }

        int gives(int f, int w, int h) {
            // Each sign puts one number at most, so the stack, as long as the code, is never full here.
            int top = 0;
            for (int i = 0; i < code.length && top < stack.length; i++) {
                int sign = -code[i];
                if (sign <= 0) {
                    stack[top++] = code[i];
                } else if (sign == 'f') {
                    stack[top++] = f;
                } else if (sign == 'w') {
                    stack[top++] = w;
                } else if (sign == 'h') {
                    stack[top++] = h;
                } else if (sign == '!' && top >= 1) {
                    stack[top - 1] = stack[top - 1] == 0 ? 1 : 0;
                } else if (top >= 2) {
                    top--;
                    stack[top - 1] = join(sign, stack[top - 1], stack[top]);
                }
            }
            int given = top >= 1 ? stack[top - 1] : 0;
            return Math.max(0, Math.min(MOST, given));
        }

        private static int join(int sign, int a, int b) {
            switch (sign) {
                case '|': return a != 0 || b != 0 ? 1 : 0;
                case '&': return a != 0 && b != 0 ? 1 : 0;
                case '<': return a < b ? 1 : 0;
                case '=': return a == b ? 1 : 0;
                case '>': return a > b ? 1 : 0;
                case '+': return a + b;
                case '-': return a - b;
                case '*': return a * b;
                case '/': return b == 0 ? 0 : a / b;
                case '%': return b == 0 ? 0 : a % b;
                default: return 0;
            }
        }
    }

    /** Reads a TEXT from bytes; where it can't, place is the FAULT. */
    private static final class Reader {
        static final int END = -1;
        static final int COMPARING = 2;
        static final int UNITS = 5;
        static final int MOST_OPEN = 5;
        static final int MOST_DIGITS = 4;

        final int[] code = new int[TAPE_ROOM];
        final byte[] bytes = new byte[TAPE_ROOM];
        int length = 0;
        int written = 0;
        int place = 0;

        Law read(byte[] tape, int many) {
            length = Math.min(many, Math.min(tape.length, TAPE_ROOM));
            System.arraycopy(tape, 0, bytes, 0, length);
            written = 0;
            place = 0;
            boolean whole = readLevel(0, 0) && place == length;
            return whole ? new Law(code, written) : null;
        }

        /** Level 0 is T, 1 A, 2 B, 3 S, 4 P, 5 Q; open: how many of ! and ( are open. */
        private boolean readLevel(int level, int open) {
            if (level >= UNITS) {
                return readUnit(open);
            }
            if (!readLevel(level + 1, open)) {
                return false;
            }
            int most = level == COMPARING ? 1 : TAPE_ROOM;
            for (int i = 0; i < most && levelOf(here()) == level; i++) {
                int sign = here();
                place++;
                if (!readLevel(level + 1, open)) {
                    return false;
                }
                write(-sign);
            }
            return true;
        }

        private boolean readUnit(int open) {
            int sign = here();
            if (isDigit(sign)) {
                readNumber();
                return true;
            }
            if (sign == 'f' || sign == 'w' || sign == 'h') {
                place++;
                write(-sign);
                return true;
            }
            if (open >= MOST_OPEN || (sign != '!' && sign != '(')) {
                return false;
            }
            place++;
            if (sign == '!') {
                boolean read = readUnit(open + 1);
                write(-sign);
                return read;
            }
            boolean closed = readLevel(0, open + 1) && here() == ')';
            if (closed) {
                place++;
            }
            return closed;
        }

        private void readNumber() {
            int number = 0;
            for (int i = 0; i < MOST_DIGITS && isDigit(here()); i++) {
                number = number * 10 + here() - '0';
                place++;
            }
            write(number);
        }

        private int here() {
            return place < length ? bytes[place] & 255 : END;
        }

        private void write(int sign) {
            if (written < code.length) {
                code[written] = sign;
                written++;
            }
        }

        private static boolean isDigit(int sign) {
            return sign >= '0' && sign <= '9';
        }

        private static int levelOf(int sign) {
            switch (sign) {
                case '|': return 0;
                case '&': return 1;
                case '<': case '=': case '>': return COMPARING;
                case '+': case '-': return 3;
                case '*': case '/': case '%': return 4;
                default: return -1;
            }
        }
    }

    /** What an IMAGE keeps beside the city: THE TAPE, the numbers that wait, z. */
    private static final class Desk {
        final byte[] tape = new byte[TAPE_ROOM];
        final int[] waiting = new int[WAITING_ROOM];
        int tapeLength = 0;
        int waitingCount = 0;
        int z = 1;

        void copyFrom(Desk other) {
            System.arraycopy(other.tape, 0, tape, 0, TAPE_ROOM);
            System.arraycopy(other.waiting, 0, waiting, 0, WAITING_ROOM);
            tapeLength = other.tapeLength;
            waitingCount = other.waitingCount;
            z = other.z;
        }

        int draw() {
            z = z * 1103515245 + 12345;
            return z >>> 8;
        }
    }

    /** A row of numbers of 8, 16 or 32 bits; of 0 bits: missing. */
    private static final class Sheet {
        final int[] numbers = new int[SHEET_ROOM];
        int bits = 0;
        int length = 0;

        boolean isMissing() {
            return bits == 0;
        }

        void begin(int bits, int length) {
            this.bits = bits;
            this.length = length;
            Arrays.fill(numbers, 0);
        }

        int lowestBits(int v) {
            switch (bits) {
                case 8: return (byte) v;
                case 16: return (short) v;
                default: return v;
            }
        }

        boolean hasRun(int from, int n) {
            return n >= 0 && from >= 0 && from <= length - n;
        }

        boolean isFogOf(City city) {
            for (int cell = 0; cell < CELLS; cell++) {
                if (numbers[cell] != city.fogOf[cell]) {
                    return false;
                }
            }
            return true;
        }
    }

    /** VOICES of JARS, and THE TRACE of the latest one. */
    private static final class Voices {
        static final int LETS = 0;
        static final int DRIFTS = 1;
        static final int THINS = 2;
        static final int TELLS = 3;
        static final int ACTS = 4;
        static final int DEEPEST = 40;
        /** The BODY of each KIND for each act, four to a KIND; 0: it has none. */
        static final int[] BODIES = {
            10, 11, 12, 13,
            20, 0, 0, 0,
            0, 30, 0, 0,
            0, 0, 40, 0,
            0, 0, 0, 50,
            0, 60, 0, 0,
            0, 0, 70, 71
        };

        final int[] bodies = new int[TRACE_ROOM];
        int begun = 0;
        int number = 0;
        int mark = 0;
        int own = 0;

        int speak(int jarNumber, Jar jar, int act, int x) {
            begun = 0;
            number = jarNumber;
            mark = jar.mark;
            own = jar.kind;
            return say(own, act, x, 0);
        }

        /** An act by the BODY of a KIND, or of the next one above that has one. */
        private int say(int from, int act, int x, int depth) {
            int kind = kindWithBody(from, act);
            if (kind < 0 || depth > DEEPEST) {
                return 0;
            }
            int body = BODIES[ACTS * kind + act];
            int above = ABOVE[kind];
            int deeper = depth + 1;
            noteBegin(body);
            switch (body) {
                case 10: return x + number;
                case 11: return say(own, LETS, x, deeper) * 2;
                case 12: return x - mark;
                case 13: return say(own, DRIFTS, x, deeper) ^ say(own, THINS, x, deeper);
                case 20: return say(above, LETS, x, deeper) * 3;
                case 30: return say(above, DRIFTS, x, deeper) - say(own, THINS, 1, deeper);
                case 40: return -say(above, THINS, x, deeper);
                case 50: return say(above, TELLS, x, deeper) - say(own, LETS, 2, deeper);
                case 60: return say(above, DRIFTS, x + 1, deeper);
                case 70: return say(above, THINS, x, deeper) ^ number;
                case 71: return say(own, DRIFTS, x, deeper) - say(above, TELLS, x, deeper);
                default: return 0;
            }
        }

        private static int kindWithBody(int from, int act) {
            int kind = from;
            for (int i = 0; i < KINDS && kind >= 0; i++) {
                if (BODIES[ACTS * kind + act] != 0) {
                    return kind;
                }
                kind = ABOVE[kind];
            }
            return -1;
        }

        private void noteBegin(int body) {
            if (begun < TRACE_ROOM) {
                bodies[begun] = body;
                begun++;
            }
        }
    }
}
