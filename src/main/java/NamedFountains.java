import java.util.Arrays;

/**
 * A town that has fountains where other people have graves, with a tank, rain and frost by the year,
 * and a committee that turns one off a day in a drought. ../shared/DOC.md says what each call answers.
 */
public final class NamedFountains {
    private static final int BEYOND = -1000000001;
    private static final int FULL = -1000000002;
    private static final int KIND = -1000000003;
    private static final int NONE = -1000000004;
    private static final int STATE = -1000000005;
    private static final int MISSING = -1000000006;
    private static final int SIZE = -1000000007;
    private static final int FINDINGS = 7;

    private static final int LAST_DAY = 99999;
    private static final int MOST_WATER = 9999;
    private static final int WEEKS = 8;
    private static final int DAYS_OF_WEEK = 7;
    private static final int MOST_RAIN = 99;

    private static final int MOST_FOUNTAINS = 8;
    private static final int MOST_HIGH = 40;
    private static final int MOST_LOVED = 99;
    private static final int MOST_STOOPED = 9999;

    private static final int JET = 0;
    private static final int MAYOR = 1;
    private static final int WIFE = 2;
    private static final int BASIN = 3;
    private static final int BISHOP = 4;
    private static final int BOY = 5;
    private static final int KINDS = 6;
    private static final int NO_KIND = -1;
    private static final int[] KIND_ABOVE = {NO_KIND, JET, JET, JET, MAYOR, BASIN};

    private static final int NOBODY = -1;
    private static final int FARTHEST = 400;
    private static final int MOST_TRIED = 100;
    private static final int MOST_TRIED_ENOUGH = 60;
    private static final int TANK_STEP = 10;
    private static final int DROUGHT_STEP = 50;
    private static final int MOST_DROUGHT_TRIED = 1000;
    private static final int MORE_RAIN = 10;

    private static final int TAPE_ROOM = 120;
    private static final int SHEETS = 4;
    private static final int SHEET_ROOM = 40;

    private final Town here = new Town();
    /** What would be is played on this one, so that nothing changes here and no call makes objects. */
    private final Town trial = new Town();
    private final Town kept = new Town();
    private boolean keeps = false;
    private final Tape tape = new Tape();
    private final TextReader reader = new TextReader(tape);
    private final Sheet[] sheets = {new Sheet(), new Sheet(), new Sheet(), new Sheet()};
    private final int[] tally = new int[FINDINGS];

    public NamedFountains() {
    }

    // ---- the town

    public int water(int what, int v) {
        if (what < 0 || what > 2 || v < 0 || v > MOST_WATER) {
            return found(BEYOND);
        }
        int was;
        if (what == 0) {
            was = here.tank;
            here.tank = v;
        } else if (what == 1) {
            was = here.drought;
            here.drought = v;
        } else {
            was = here.plenty;
            here.plenty = v;
        }
        return was;
    }

    public int week(int week, int what, int v) {
        if (week < 0 || week >= WEEKS || what < 0 || what > 1) {
            return found(BEYOND);
        }
        if (v < 0 || v > (what == 0 ? MOST_RAIN : 1)) {
            return found(BEYOND);
        }
        int[] row = what == 0 ? here.rains : here.colds;
        int was = row[week];
        row[week] = v;
        return was;
    }

    public int now(int what) {
        switch (what) {
            case 0: return here.day;
            case 1: return here.weekOfDay();
            case 2: return here.tank;
            case 3: return here.drought;
            case 4: return here.plenty;
            case 5: return here.rains[here.weekOfDay()];
            case 6: return here.colds[here.weekOfDay()];
            case 7: return here.setOfOff();
            case 8: return here.noise();
            case 9: return here.usesTogether();
            default: return found(BEYOND);
        }
    }

    // ---- fountains

    public int fountain(int kind) {
        if (!isKind(kind)) {
            return found(BEYOND);
        }
        if (here.size >= MOST_FOUNTAINS) {
            return found(FULL);
        }
        return here.addOne(kind);
    }

    public int of(int fountain, int what) {
        if (!here.has(fountain)) {
            return found(BEYOND);
        }
        Fountain one = here.row[fountain];
        boolean cold = here.isCold();
        switch (what) {
            case 0: return one.kind;
            case 1: return one.high;
            case 2: return one.off;
            case 3: return one.loved;
            case 4: return one.stooped;
            case 5: return one.uses(cold);
            case 6: return one.heard();
            case 7: return 100 + one.gains(cold);
            case 8: return 1000 + one.givesWay();
            default: return found(BEYOND);
        }
    }

    public int set(int fountain, int what, int v) {
        if (!here.has(fountain) || !maySet(what, v)) {
            return found(BEYOND);
        }
        Fountain one = here.row[fountain];
        int was;
        if (what == 1) {
            was = one.high;
            one.high = v;
        } else if (what == 2) {
            was = one.off;
            one.off = v;
        } else if (what == 3) {
            was = one.loved;
            one.loved = v;
        } else {
            was = one.stooped;
            one.stooped = v;
        }
        return was;
    }

    public int turn(int fountain, int kind) {
        if (!here.has(fountain) || !isKind(kind)) {
            return found(BEYOND);
        }
        Fountain one = here.row[fountain];
        int was = one.kind;
        one.kind = kind;
        return was;
    }

    public int as(int fountain, int kind) {
        if (!here.has(fountain) || !isKind(kind)) {
            return found(BEYOND);
        }
        Fountain one = here.row[fountain];
        return isUnder(one.kind, kind) ? one.loved : found(KIND);
    }

    public int next() {
        int one = here.givesWayMost();
        return one == NOBODY ? found(NONE) : one;
    }

    // ---- days

    public int days(int n) {
        if (!isTried(n)) {
            return found(BEYOND);
        }
        if (here.day + n > LAST_DAY) {
            return found(STATE);
        }
        here.passDays(n);
        return here.tank;
    }

    public int on(int n, int what) {
        if (!isAhead(n) || what < 0 || what > 2) {
            return found(BEYOND);
        }
        trial.become(here);
        trial.passDays(n);
        if (what == 0) {
            return trial.tank;
        }
        return what == 1 ? trial.noise() : trial.setOfOff();
    }

    public int then(int fountain, int n, int what) {
        if (!here.has(fountain) || !isAhead(n) || what < 0 || what > 2) {
            return found(BEYOND);
        }
        trial.become(here);
        trial.passDays(n);
        Fountain one = trial.row[fountain];
        if (what == 0) {
            return one.off;
        }
        return what == 1 ? one.loved : one.stooped;
    }

    public int falls(int v) {
        if (v < 0 || v > MOST_WATER) {
            return found(BEYOND);
        }
        trial.become(here);
        for (int n = 0; n <= FARTHEST; n++) {
            if (trial.tank <= v) {
                return n;
            }
            trial.passDay();
        }
        return found(NONE);
    }

    public int off(int fountain) {
        if (!here.has(fountain)) {
            return found(BEYOND);
        }
        trial.become(here);
        int n = trial.daysTillOff(fountain);
        return n > FARTHEST ? found(NONE) : n;
    }

    public int quiet() {
        trial.become(here);
        for (int n = 0; n <= FARTHEST; n++) {
            if (trial.noise() == 0) {
                return n;
            }
            trial.passDay();
        }
        return found(NONE);
    }

    // ---- what is best

    public int best(int n) {
        if (!isTried(n)) {
            return found(BEYOND);
        }
        int best = NOBODY;
        int most = -1;
        for (int i = 0; i < here.size; i++) {
            if (here.row[i].off == 0) {
                trial.become(here);
                trial.row[i].off = 1;
                trial.passDays(n);
                if (trial.tank > most) {
                    most = trial.tank;
                    best = i;
                }
            }
        }
        return best == NOBODY ? found(NONE) : best;
    }

    public int high(int fountain, int n) {
        if (!here.has(fountain) || !isTried(n)) {
            return found(BEYOND);
        }
        for (int high = MOST_HIGH; high >= 1; high--) {
            trial.become(here);
            trial.row[fountain].high = high;
            if (trial.letsGo(fountain, n)) {
                return high;
            }
        }
        return found(NONE);
    }

    public int loved(int fountain, int n) {
        if (!here.has(fountain) || !isTried(n)) {
            return found(BEYOND);
        }
        for (int loved = 0; loved <= MOST_LOVED; loved++) {
            trial.become(here);
            trial.row[fountain].loved = loved;
            if (trial.letsGo(fountain, n)) {
                return loved;
            }
        }
        return found(NONE);
    }

    public int kind(int fountain) {
        if (!here.has(fountain)) {
            return found(BEYOND);
        }
        int best = JET;
        int latest = -1;
        for (int kind = 0; kind < KINDS; kind++) {
            trial.become(here);
            trial.row[fountain].kind = kind;
            int n = trial.daysTillOff(fountain);
            if (n > latest) {
                latest = n;
                best = kind;
            }
        }
        return best;
    }

    public int rain(int n) {
        if (!isTried(n)) {
            return found(BEYOND);
        }
        int best = 0;
        int most = -1;
        for (int week = 0; week < WEEKS; week++) {
            trial.become(here);
            trial.rains[week] = Math.min(MOST_RAIN, trial.rains[week] + MORE_RAIN);
            trial.passDays(n);
            int noise = trial.noise();
            if (noise > most) {
                most = noise;
                best = week;
            }
        }
        return best;
    }

    public int enough(int n) {
        if (n < 1 || n > MOST_TRIED_ENOUGH) {
            return found(BEYOND);
        }
        // More water may wake one that empties the tank, so what is enough isn't so for all above it.
        for (int tank = 0; tank <= MOST_WATER; tank += TANK_STEP) {
            trial.become(here);
            trial.tank = tank;
            if (trial.letsAllGo(n)) {
                return tank;
            }
        }
        return found(NONE);
    }

    public int rule(int n) {
        if (!isTried(n)) {
            return found(BEYOND);
        }
        int best = 0;
        int least = MOST_STOOPED * MOST_FOUNTAINS + 1;
        for (int drought = 0; drought <= MOST_DROUGHT_TRIED; drought += DROUGHT_STEP) {
            trial.become(here);
            trial.drought = drought;
            trial.passDays(n);
            int stooped = trial.stoopedTogether();
            if (stooped < least) {
                least = stooped;
                best = drought;
            }
        }
        return best;
    }

    // ---- the text

    public int feed(int bytes, int n) {
        if (n < 1 || n > 4) {
            return found(BEYOND);
        }
        if (tape.length + n > TAPE_ROOM) {
            return found(FULL);
        }
        for (int i = n - 1; i >= 0; i--) {
            tape.add(bytes >>> (8 * i));
        }
        return tape.length;
    }

    public int wipe() {
        int had = tape.length;
        tape.length = 0;
        return had;
    }

    public int town() {
        trial.become(here);
        int answer = reader.readInto(trial);
        if (answer >= 0) {
            here.become(trial);
        }
        tape.length = 0;
        return answer;
    }

    // ---- sheets

    public int sheet(int s, int bits, int n) {
        if (!isSheet(s) || (bits != 0 && bits != 8 && bits != 16 && bits != 64)) {
            return found(BEYOND);
        }
        if (n < 0) {
            return found(SIZE);
        }
        if (n > SHEET_ROOM) {
            return found(BEYOND);
        }
        sheets[s].lay(bits, n);
        return sheets[s].length;
    }

    public long write(int s, int i, long v) {
        int finding = askSheet(s);
        if (finding != 0) {
            return found(finding);
        }
        Sheet sheet = sheets[s];
        if (i < 0 || i >= sheet.length) {
            return found(BEYOND);
        }
        long was = sheet.numbers[i];
        sheet.put(i, v);
        return was;
    }

    public int copy(int s, int from, int t, int to, int n) {
        if (!isSheet(s) || !isSheet(t)) {
            return found(BEYOND);
        }
        Sheet source = sheets[s];
        Sheet target = sheets[t];
        if (source.isMissing() || target.isMissing()) {
            return found(MISSING);
        }
        if (source.bits != target.bits) {
            return found(KIND);
        }
        if (!source.hasFrom(from, n) || !target.hasFrom(to, n)) {
            return found(BEYOND);
        }
        System.arraycopy(source.numbers, from, target.numbers, to, n);
        return n;
    }

    public int lays(int s) {
        int finding = askSheet(s);
        if (finding != 0) {
            return found(finding);
        }
        Sheet sheet = sheets[s];
        int came = 0;
        for (int i = 0; i < sheet.length && i < WEEKS; i++) {
            long v = sheet.numbers[i];
            if (v >= 0 && v <= MOST_RAIN) {
                here.rains[i] = (int) v;
                came++;
            }
        }
        return came;
    }

    public int book(int s) {
        int finding = askSheet(s);
        if (finding != 0) {
            return found(finding);
        }
        Sheet sheet = sheets[s];
        trial.become(here);
        for (int i = 0; i < sheet.length; i++) {
            sheet.put(i, trial.tank);
            trial.passDay();
        }
        return sheet.length;
    }

    public int read(int s, int fountain) {
        int finding = askSheet(s);
        if (finding != 0) {
            return found(finding);
        }
        if (!here.has(fountain)) {
            return found(BEYOND);
        }
        int pairs = 0;
        for (int kind = 0; kind < KINDS; kind++) {
            for (int high = 1; high <= MOST_HIGH; high++) {
                trial.become(here);
                trial.row[fountain].kind = kind;
                trial.row[fountain].high = high;
                if (trial.goesBy(sheets[s])) {
                    pairs++;
                }
            }
        }
        return pairs;
    }

    // ---- images

    public int image() {
        kept.become(here);
        keeps = true;
        return 1;
    }

    public int undo() {
        if (!keeps) {
            return found(NONE);
        }
        here.become(kept);
        return here.size;
    }

    public int tear() {
        int had = keeps ? 1 : 0;
        keeps = false;
        return had;
    }

    public int count(int what) {
        switch (what) {
            case 0: return here.size;
            case 1: return tape.length;
            case 2: return Integer.bitCount(here.setOfOff());
            case 3: return here.stoopedTogether();
            default: return found(BEYOND);
        }
    }

    public int status(int which) {
        if (which < -1 || which >= FINDINGS) {
            return found(BEYOND);
        }
        if (which >= 0) {
            return tally[which];
        }
        int all = 0;
        for (int i = 0; i < FINDINGS; i++) {
            all += tally[i];
        }
        return all;
    }

    // ---- what the calls ask

    /** Every finding goes out through here, so that none is told uncounted. */
    private int found(int finding) {
        int which = BEYOND - finding;
        if (which >= 0 && which < FINDINGS) {
            tally[which]++;
        }
        return finding;
    }

    private static boolean isKind(int kind) {
        return kind >= 0 && kind < KINDS;
    }

    /** Whether a kind is the other one or stands under it, however far. */
    private static boolean isUnder(int kind, int above) {
        int at = kind;
        for (int step = 0; step < KINDS && at >= 0 && at < KINDS; step++) {
            if (at == above) {
                return true;
            }
            at = KIND_ABOVE[at];
        }
        return false;
    }

    private static boolean maySet(int what, int v) {
        switch (what) {
            case 1: return v >= 1 && v <= MOST_HIGH;
            case 2: return v >= 0 && v <= 1;
            case 3: return v >= 0 && v <= MOST_LOVED;
            case 4: return v >= 0 && v <= MOST_STOOPED;
            default: return false;
        }
    }

    private static boolean isTried(int n) {
        return n >= 1 && n <= MOST_TRIED;
    }

    private static boolean isAhead(int n) {
        return n >= 0 && n <= FARTHEST;
    }

    private static boolean isSheet(int s) {
        return s >= 0 && s < SHEETS;
    }

    /** The finding that a call on a sheet tells first, or 0. */
    private int askSheet(int s) {
        if (!isSheet(s)) {
            return BEYOND;
        }
        return sheets[s].isMissing() ? MISSING : 0;
    }

    /** One somebody, let go up. */
    private static final class Fountain {
        int kind;
        int high;
        int off;
        int loved;
        int stooped;

        void begin(int newKind) {
            kind = newKind;
            high = 10;
            off = 0;
            loved = 20;
            stooped = 0;
        }

        void become(Fountain other) {
            kind = other.kind;
            high = other.high;
            off = other.off;
            loved = other.loved;
            stooped = other.stooped;
        }

        private boolean isStill() {
            return off == 1 && kind != BOY;
        }

        int uses(boolean cold) {
            if (isStill()) {
                return 0;
            }
            return cold ? usesGoing() / 2 : usesGoing();
        }

        private int usesGoing() {
            switch (kind) {
                case MAYOR: return high * 2;
                case WIFE: return Math.max(1, high / 2);
                case BASIN: return 2;
                case BISHOP: return Math.max(0, high * 2 - loved / 20);
                case BOY: return 1;
                default: return high;
            }
        }

        int heard() {
            return isStill() ? 0 : heardGoing();
        }

        private int heardGoing() {
            switch (kind) {
                case MAYOR: return high + 10;
                case WIFE: return high / 2 + 5;
                case BASIN: return 1;
                case BISHOP: return high + 10;
                case BOY: return 1 + loved / 10;
                default: return high;
            }
        }

        int gains(boolean cold) {
            int asJet = off == 1 ? -1 : 1;
            int asMayor = high > 30 ? 0 : asJet;
            int asBasin = cold ? asJet : asJet + 1;
            switch (kind) {
                case MAYOR: return asMayor;
                case WIFE: return 1;
                case BASIN: return asBasin;
                case BISHOP: return asMayor - 1;
                case BOY: return Math.max(0, asBasin);
                default: return asJet;
            }
        }

        int givesWay() {
            int asJet = high - loved;
            int asMayor = asJet - 20;
            int asBasin = -200 - loved;
            switch (kind) {
                case MAYOR: return asMayor;
                case BASIN: return asBasin;
                case BISHOP: return asMayor + 5;
                case BOY: return asBasin - 200;
                default: return asJet;
            }
        }

        void stoop() {
            off = 1;
            stooped = Math.min(MOST_STOOPED, stooped + 1);
        }

        void endDay(boolean cold) {
            loved = Math.max(0, Math.min(MOST_LOVED, loved + gains(cold)));
        }
    }

    /** All that section 1 of the document's terms tells, but for the tape. */
    private static final class Town {
        int day = 0;
        int tank = 500;
        int drought = 200;
        int plenty = 600;
        final int[] rains = new int[WEEKS];
        final int[] colds = new int[WEEKS];
        final Fountain[] row = new Fountain[MOST_FOUNTAINS];
        int size = 0;

        Town() {
            for (int i = 0; i < WEEKS; i++) {
                rains[i] = (5 * i) % 13 + 3;
            }
            for (int i = 0; i < MOST_FOUNTAINS; i++) {
                row[i] = new Fountain();
            }
        }

        void become(Town other) {
            day = other.day;
            tank = other.tank;
            drought = other.drought;
            plenty = other.plenty;
            System.arraycopy(other.rains, 0, rains, 0, WEEKS);
            System.arraycopy(other.colds, 0, colds, 0, WEEKS);
            size = other.size;
            for (int i = 0; i < size; i++) {
                row[i].become(other.row[i]);
            }
        }

        boolean has(int fountain) {
            return fountain >= 0 && fountain < size;
        }

        /** The number of the new one, or NOBODY where there is no room for it. */
        int addOne(int kind) {
            if (size >= MOST_FOUNTAINS) {
                return NOBODY;
            }
            row[size].begin(kind);
            size++;
            return size - 1;
        }

        int weekOfDay() {
            return Math.floorMod(day / DAYS_OF_WEEK, WEEKS);
        }

        boolean isCold() {
            return colds[weekOfDay()] == 1;
        }

        int setOfOff() {
            int bits = 0;
            for (int i = 0; i < size; i++) {
                bits |= row[i].off << i;
            }
            return bits;
        }

        int noise() {
            int sum = 0;
            for (int i = 0; i < size; i++) {
                sum += row[i].heard();
            }
            return sum;
        }

        int usesTogether() {
            boolean cold = isCold();
            int sum = 0;
            for (int i = 0; i < size; i++) {
                sum += row[i].uses(cold);
            }
            return sum;
        }

        int stoopedTogether() {
            int sum = 0;
            for (int i = 0; i < size; i++) {
                sum += row[i].stooped;
            }
            return sum;
        }

        /** The first of those that go to be turned off, or NOBODY. */
        int givesWayMost() {
            int first = NOBODY;
            int most = 0;
            for (int i = 0; i < size; i++) {
                int way = row[i].givesWay();
                if (row[i].off == 0 && (first == NOBODY || way > most)) {
                    most = way;
                    first = i;
                }
            }
            return first;
        }

        /** The first of those that are off to be turned on, or NOBODY. */
        private int givesWayLeast() {
            int first = NOBODY;
            int least = 0;
            for (int i = 0; i < size; i++) {
                int way = row[i].givesWay();
                if (row[i].off == 1 && (first == NOBODY || way < least)) {
                    least = way;
                    first = i;
                }
            }
            return first;
        }

        void passDays(int n) {
            for (int i = 0; i < n; i++) {
                passDay();
            }
        }

        void passDay() {
            boolean cold = isCold();
            tank = Math.min(MOST_WATER, tank + rains[weekOfDay()]);
            sendCommittee();
            for (int i = 0; i < size; i++) {
                letRun(row[i], cold);
            }
            for (int i = 0; i < size; i++) {
                row[i].endDay(cold);
            }
            day++;
        }

        private void sendCommittee() {
            if (tank < drought) {
                int one = givesWayMost();
                if (one != NOBODY) {
                    row[one].stoop();
                }
            } else if (tank >= plenty) {
                int one = givesWayLeast();
                if (one != NOBODY) {
                    row[one].off = 0;
                }
            }
        }

        private void letRun(Fountain one, boolean cold) {
            int use = one.uses(cold);
            if (tank >= use) {
                tank -= use;
            } else if (one.kind != BOY) {
                one.stoop();
            }
        }

        /** Goes on till one is off: how many days that took, or one more than the farthest day. */
        int daysTillOff(int fountain) {
            if (!has(fountain)) {
                return FARTHEST + 1;
            }
            for (int n = 0; n <= FARTHEST; n++) {
                if (row[fountain].off == 1) {
                    return n;
                }
                passDay();
            }
            return FARTHEST + 1;
        }

        /** Whether n days pass in which the one doesn't stoop. */
        boolean letsGo(int fountain, int n) {
            if (!has(fountain)) {
                return false;
            }
            int before = row[fountain].stooped;
            for (int i = 0; i < n; i++) {
                passDay();
                if (row[fountain].stooped > before) {
                    return false;
                }
            }
            return true;
        }

        /** Whether n days pass in which none stoops. */
        boolean letsAllGo(int n) {
            int before = stoopedTogether();
            for (int i = 0; i < n; i++) {
                passDay();
                if (stoopedTogether() > before) {
                    return false;
                }
            }
            return true;
        }

        /** Whether the tank stands day by day as the sheet says. */
        boolean goesBy(Sheet sheet) {
            for (int i = 0; i < sheet.length; i++) {
                if (sheet.numbers[i] != tank) {
                    return false;
                }
                passDay();
            }
            return true;
        }
    }

    /** The bytes of a text that has been fed and not yet told. */
    private static final class Tape {
        final int[] bytes = new int[TAPE_ROOM];
        int length = 0;

        void add(int oneByte) {
            if (length < TAPE_ROOM) {
                bytes[length] = oneByte & 255;
                length++;
            }
        }
    }

    /** Reads the tape token by token; the token at hand is where a fault is. */
    private static final class TextReader {
        private static final int WORD = 0;
        private static final int NUMBER = 1;
        private static final int SEMICOLON = 2;
        private static final int ENDED = 3;
        private static final int NO_TOKEN = 4;

        private static final int MOST_NUMBER = 9999;

        private final Tape tape;
        private int sort = ENDED;
        private int start = 0;
        private int end = 0;
        private int number = 0;
        private int taken = 0;

        TextReader(Tape tape) {
            this.tape = tape;
        }

        /** How many items came to the town, or -1 less the place of the fault. */
        int readInto(Town town) {
            end = 0;
            step();
            for (int items = 1; items <= TAPE_ROOM; items++) {
                if (!takeItem(town)) {
                    return -1 - start;
                }
                if (sort == ENDED) {
                    return items;
                }
                if (sort != SEMICOLON) {
                    return -1 - start;
                }
                step();
            }
            return -1 - start;
        }

        private boolean takeItem(Town town) {
            int kind = kindNamed();
            if (kind != NO_KIND) {
                return takeFountain(town, kind);
            }
            if (takeWord("rain")) {
                return takeRain(town);
            }
            if (takeWord("cold")) {
                return takeFrost(town, 1);
            }
            if (takeWord("mild")) {
                return takeFrost(town, 0);
            }
            if (takeWord("tank") && takeNumber(0, MOST_WATER)) {
                town.tank = taken;
                return true;
            }
            return false;
        }

        private int kindNamed() {
            if (isWord("jet")) {
                return JET;
            }
            if (isWord("mayor")) {
                return MAYOR;
            }
            if (isWord("wife")) {
                return WIFE;
            }
            if (isWord("basin")) {
                return BASIN;
            }
            if (isWord("bishop")) {
                return BISHOP;
            }
            return isWord("boy") ? BOY : NO_KIND;
        }

        private boolean takeFountain(Town town, int kind) {
            int place = town.addOne(kind);
            if (!town.has(place)) {
                return false;
            }
            Fountain one = town.row[place];
            step();
            if (takeWord("high")) {
                if (!takeNumber(1, MOST_HIGH)) {
                    return false;
                }
                one.high = taken;
            }
            if (takeWord("loved")) {
                if (!takeNumber(0, MOST_LOVED)) {
                    return false;
                }
                one.loved = taken;
            }
            if (takeWord("off")) {
                one.off = 1;
            }
            return true;
        }

        private boolean takeRain(Town town) {
            if (!takeNumber(0, WEEKS - 1)) {
                return false;
            }
            int week = taken;
            if (!takeNumber(0, MOST_RAIN)) {
                return false;
            }
            town.rains[week] = taken;
            return true;
        }

        private boolean takeFrost(Town town, int cold) {
            if (!takeNumber(0, WEEKS - 1)) {
                return false;
            }
            town.colds[taken] = cold;
            return true;
        }

        private boolean takeWord(String word) {
            if (!isWord(word)) {
                return false;
            }
            step();
            return true;
        }

        private boolean takeNumber(int least, int most) {
            if (sort != NUMBER || number < least || number > most) {
                return false;
            }
            taken = number;
            step();
            return true;
        }

        private boolean isWord(String word) {
            if (sort != WORD || word.length() != end - start) {
                return false;
            }
            for (int i = 0; i < word.length(); i++) {
                if (byteAt(start + i) != word.charAt(i)) {
                    return false;
                }
            }
            return true;
        }

        /** The next token comes to hand. */
        private void step() {
            start = end;
            while (start < tape.length && byteAt(start) == ' ') {
                start++;
            }
            end = start;
            if (start >= tape.length) {
                sort = ENDED;
            } else if (isLetter(byteAt(start))) {
                sort = WORD;
                while (end < tape.length && isLetter(byteAt(end))) {
                    end++;
                }
            } else if (isDigit(byteAt(start))) {
                sort = NUMBER;
                number = 0;
                // Held just above the greatest that may be, since the digits may be many.
                while (end < tape.length && isDigit(byteAt(end))) {
                    number = Math.min(MOST_NUMBER + 1, number * 10 + byteAt(end) - '0');
                    end++;
                }
            } else {
                sort = byteAt(start) == ';' ? SEMICOLON : NO_TOKEN;
                end = start + 1;
            }
        }

        private int byteAt(int place) {
            return place >= 0 && place < tape.length && place < TAPE_ROOM ? tape.bytes[place] : -1;
        }

        private static boolean isLetter(int oneByte) {
            return oneByte >= 'a' && oneByte <= 'z';
        }

        private static boolean isDigit(int oneByte) {
            return oneByte >= '0' && oneByte <= '9';
        }
    }

    /** A row of numbers of some bits; of none while it is missing. */
    private static final class Sheet {
        int bits = 0;
        int length = 0;
        final long[] numbers = new long[SHEET_ROOM];

        boolean isMissing() {
            return bits == 0;
        }

        void lay(int newBits, int n) {
            bits = newBits;
            length = newBits == 0 ? 0 : Math.max(0, Math.min(SHEET_ROOM, n));
            Arrays.fill(numbers, 0L);
        }

        boolean hasFrom(int from, int n) {
            return from >= 0 && n >= 0 && n <= length - from;
        }

        /** Numbers of few bits are held with their sign, as Java's bytes and shorts are. */
        void put(int i, long v) {
            if (i < 0 || i >= length) {
                return;
            }
            if (bits == 8) {
                numbers[i] = (byte) v;
            } else if (bits == 16) {
                numbers[i] = (short) v;
            } else {
                numbers[i] = v;
            }
        }
    }
}
