/** Promises 1 to 37 in long mixed runs of calls, right and wrong ones, against PlainModel. */
public final class ModelTest {
    private static final Due DUE = new Due("ModelTest");
    private static final int RUNS = 150;
    private static final int CALLS = 512;
    private static final int METHODS = 36;
    private static final int[] ODD = {-1, -2, Integer.MIN_VALUE, Integer.MAX_VALUE, 1000000, -1000000001};
    private static final String[] PIECES = {"jet", "mayor", "wife", "basin", "bishop", "boy", "high", "loved", "off",
        "rain", "cold", "mild", "tank", "0", "1", "7", "8", "10", "40", "41", "99", "100", "9999", "10000", "00007",
        ";", ";", " ", "  ", "x", "!", "J", "jetty", "" + (char) 200};

    /** Kept by hand, so that the same calls come on every machine. */
    private static long seed;

    private final NamedFountains x = new NamedFountains();
    private final PlainModel m = new PlainModel();
    private int calls = 0;
    private String run;

    public static void main(String[] args) {
        for (int r = 0; r < RUNS; r++) {
            seed = 88172645463325252L + r * 7919L;
            ModelTest test = new ModelTest();
            test.run = "run " + r;
            test.go(r % 3);
        }
        DUE.end();
    }

    private static int below(int n) {
        seed ^= seed << 13;
        seed ^= seed >>> 7;
        seed ^= seed << 17;
        return (int) ((seed >>> 1) % n);
    }

    /** A number from low to high; now and then an edge, one beyond, or an odd one. */
    private static int about(int low, int high) {
        int dice = below(40);
        if (dice == 0) { return ODD[below(ODD.length)]; }
        if (dice == 1) { return low - 1; }
        if (dice == 2) { return high + 1; }
        if (dice == 3) { return low; }
        if (dice == 4) { return high; }
        return low + below(high - low + 1);
    }

    private int one() {
        int size = Math.max(1, m.here.all.size());
        return about(0, size - 1);
    }

    private void go(int mood) {
        while (calls < CALLS) {
            if (mood == 0) {
                call(below(METHODS));
            } else if (mood == 1) {
                // A town of some size that changes slowly and is asked much.
                int method = below(METHODS + 30);
                call(method < METHODS ? method : new int[] {0, 1, 3, 5, 6, 9, 10, 12, 13, 14, 15, 16, 17, 18}[below(14)]);
            } else {
                call(below(4) == 0 ? below(METHODS) : 23 + below(13));
            }
        }
    }

    private void same(String call, long got, long want) {
        calls++;
        DUE.is(run + ", call " + calls + ": " + call, got, want);
    }

    private void call(int method) {
        if (method < 10) {
            callTown(method);
        } else if (method < 23) {
            callDays(method);
        } else {
            callRest(method);
        }
    }

    private void callTown(int method) {
        int f = one();
        switch (method) {
            case 0: {
                int what = about(0, 2);
                int v = below(3) == 0 ? about(0, 9999) : about(0, 900);
                same("water(" + what + ", " + v + ")", x.water(what, v), m.water(what, v));
                break;
            }
            case 1: {
                int w = about(0, 7);
                int what = about(0, 1);
                int v = what == 1 ? about(0, 1) : below(2) == 0 ? about(0, 99) : about(0, 20);
                same("week(" + w + ", " + what + ", " + v + ")", x.week(w, what, v), m.week(w, what, v));
                break;
            }
            case 2: {
                int what = about(0, 9);
                same("now(" + what + ")", x.now(what), m.now(what));
                break;
            }
            case 3: {
                int kind = about(0, 5);
                same("fountain(" + kind + ")", x.fountain(kind), m.fountain(kind));
                break;
            }
            case 4: {
                int what = about(0, 8);
                same("of(" + f + ", " + what + ")", x.of(f, what), m.of(f, what));
                break;
            }
            case 5:
            case 6: {
                int what = about(1, 4);
                int v = what == 1 ? about(1, 40) : what == 2 ? about(0, 1) : what == 3 ? about(0, 99)
                    : below(2) == 0 ? about(9997, 9999) : about(0, 9999);
                same("set(" + f + ", " + what + ", " + v + ")", x.set(f, what, v), m.set(f, what, v));
                break;
            }
            case 7: {
                int kind = about(0, 5);
                same("turn(" + f + ", " + kind + ")", x.turn(f, kind), m.turn(f, kind));
                break;
            }
            case 8: {
                int kind = about(0, 5);
                same("as(" + f + ", " + kind + ")", x.as(f, kind), m.as(f, kind));
                break;
            }
            default:
                same("next()", x.next(), m.next());
                break;
        }
    }

    private void callDays(int method) {
        int f = one();
        int n = below(2) == 0 ? about(1, 100) : about(1, 12);
        int far = below(2) == 0 ? about(0, 400) : about(0, 20);
        int what = about(0, 2);
        switch (method) {
            case 10:
                same("days(" + n + ")", x.days(n), m.days(n));
                break;
            case 11:
                same("on(" + far + ", " + what + ")", x.on(far, what), m.on(far, what));
                break;
            case 12:
                same("then(" + f + ", " + far + ", " + what + ")", x.then(f, far, what), m.then(f, far, what));
                break;
            case 13: {
                int v = below(2) == 0 ? about(0, 9999) : about(0, 100);
                same("falls(" + v + ")", x.falls(v), m.falls(v));
                break;
            }
            case 14:
                same("off(" + f + ")", x.off(f), m.off(f));
                break;
            case 15:
                same("quiet()", x.quiet(), m.quiet());
                break;
            case 16:
                same("best(" + n + ")", x.best(n), m.best(n));
                break;
            case 17:
                same("high(" + f + ", " + n + ")", x.high(f, n), m.high(f, n));
                break;
            case 18:
                same("loved(" + f + ", " + n + ")", x.loved(f, n), m.loved(f, n));
                break;
            case 19:
                same("kind(" + f + ")", x.kind(f), m.kind(f));
                break;
            case 20:
                same("rain(" + n + ")", x.rain(n), m.rain(n));
                break;
            case 21: {
                int days = below(2) == 0 ? about(1, 60) : about(1, 9);
                same("enough(" + days + ")", x.enough(days), m.enough(days));
                break;
            }
            default:
                same("rule(" + n + ")", x.rule(n), m.rule(n));
                break;
        }
    }

    private void callRest(int method) {
        int s = about(0, 3);
        switch (method) {
            case 23:
                feedText();
                break;
            case 24: {
                int n = about(1, 4);
                int bytes = below(1 << 30);
                same("feed(" + bytes + ", " + n + ")", x.feed(bytes, n), m.feed(bytes, n));
                if (below(2) == 0) {
                    same("wipe()", x.wipe(), m.wipe());
                }
                break;
            }
            case 25:
                same("town()", x.town(), m.town());
                break;
            case 26: {
                int bits = new int[] {0, 8, 16, 64, 8, 16, 64, 16, 64, about(0, 64)}[below(10)];
                int n = below(2) == 0 ? about(0, 40) : about(0, 4);
                same("sheet(" + s + ", " + bits + ", " + n + ")", x.sheet(s, bits, n), m.sheet(s, bits, n));
                break;
            }
            case 27: {
                int i = about(0, 12);
                long v = below(2) == 0 ? about(0, 120) : ((long) below(1 << 30) << 34) + below(1 << 30);
                same("write(" + s + ", " + i + ", " + v + ")", x.write(s, i, v), m.write(s, i, v));
                break;
            }
            case 28: {
                int t = about(0, 3);
                int from = about(0, 6);
                int to = about(0, 6);
                int n = about(0, 6);
                same("copy(" + s + ", " + from + ", " + t + ", " + to + ", " + n + ")", x.copy(s, from, t, to, n),
                    m.copy(s, from, t, to, n));
                break;
            }
            case 29:
                same("lays(" + s + ")", x.lays(s), m.lays(s));
                break;
            case 30:
                same("book(" + s + ")", x.book(s), m.book(s));
                break;
            case 31: {
                int f = one();
                if (below(2) == 0) {
                    same("book(" + s + ")", x.book(s), m.book(s));
                }
                same("read(" + s + ", " + f + ")", x.read(s, f), m.read(s, f));
                break;
            }
            case 32:
                same("image()", x.image(), m.image());
                break;
            case 33:
                if (below(3) == 0) {
                    same("tear()", x.tear(), m.tear());
                } else {
                    same("undo()", x.undo(), m.undo());
                }
                break;
            case 34: {
                int what = about(0, 3);
                same("count(" + what + ")", x.count(what), m.count(what));
                break;
            }
            default: {
                int which = about(-1, 6);
                same("status(" + which + ")", x.status(which), m.status(which));
                break;
            }
        }
    }

    /** A text of random pieces, or mostly right items, fed and mostly told. */
    private void feedText() {
        StringBuilder text = new StringBuilder();
        int parts = 1 + below(5);
        for (int i = 0; i < parts; i++) {
            text.append(i > 0 ? ";" : "").append(below(4) == 0 ? pieces() : item());
        }
        for (int i = 0; i < text.length(); i += 4) {
            int bytes = 0;
            int n = Math.min(4, text.length() - i);
            for (int j = 0; j < n; j++) {
                bytes = bytes << 8 | text.charAt(i + j);
            }
            same("feed(" + bytes + ", " + n + ")", x.feed(bytes, n), m.feed(bytes, n));
        }
        if (below(8) != 0) {
            same("town() of \"" + text + "\"", x.town(), m.town());
        }
    }

    private static String pieces() {
        StringBuilder text = new StringBuilder();
        int parts = below(5);
        for (int i = 0; i < parts; i++) {
            text.append(PIECES[below(PIECES.length)]).append(below(2) == 0 ? " " : "");
        }
        return text.toString();
    }

    private static String item() {
        int sort = below(8);
        if (sort == 0) { return "rain " + below(8) + " " + below(100); }
        if (sort == 1) { return "cold " + below(8); }
        if (sort == 2) { return "mild " + below(9); }
        if (sort == 3) { return "tank " + below(10100); }
        String text = PIECES[below(6)];
        if (below(2) == 0) { text += " high " + below(42); }
        if (below(2) == 0) { text += " loved " + below(101); }
        if (below(3) == 0) { text += " off"; }
        return text;
    }
}
