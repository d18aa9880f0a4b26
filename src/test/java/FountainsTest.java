/** Promises 5 to 10: fountain, of, set, turn, as, next. */
public final class FountainsTest {
    private static final Due DUE = new Due("FountainsTest");

    public static void main(String[] args) {
        fountain();
        ofNew();
        uses();
        heard();
        gains();
        givesWay();
        ofWrong();
        set();
        turn();
        as();
        next();
        DUE.end();
    }

    /** One of a kind alone in a new town. */
    private static NamedFountains one(int kind, int high, int off, int loved, int cold) {
        NamedFountains x = new NamedFountains();
        x.fountain(kind);
        x.set(0, 1, high);
        x.set(0, 2, off);
        x.set(0, 3, loved);
        x.week(0, 1, cold);
        return x;
    }

    private static void of(int what, int kind, int high, int off, int loved, int cold, int want) {
        String call = "of(0, " + what + ") of kind " + kind + ", high " + high + ", off " + off + ", loved " + loved
            + ", cold " + cold;
        DUE.is(call, one(kind, high, off, loved, cold).of(0, what), want);
    }

    private static void fountain() {
        NamedFountains x = new NamedFountains();
        DUE.is("fountain(-1)", x.fountain(-1), Due.BEYOND);
        DUE.is("fountain(6)", x.fountain(6), Due.BEYOND);
        for (int i = 0; i < 8; i++) {
            DUE.is("fountain " + i, x.fountain(i % 6), i);
        }
        DUE.is("a ninth", x.fountain(0), Due.FULL);
        DUE.is("a ninth of no kind", x.fountain(6), Due.BEYOND);
        DUE.is("how many", x.count(0), 8);
        DUE.is("BEYOND told", x.status(0), 3);
        DUE.is("FULL told", x.status(1), 1);
        for (int i = 0; i < 8; i++) {
            DUE.is("kind of " + i, x.of(i, 0), i % 6);
        }
    }

    private static void ofNew() {
        for (int kind = 0; kind < 6; kind++) {
            NamedFountains x = new NamedFountains();
            x.fountain(kind);
            DUE.is("KIND at first", x.of(0, 0), kind);
            DUE.is("HIGH at first", x.of(0, 1), 10);
            DUE.is("OFF at first", x.of(0, 2), 0);
            DUE.is("LOVED at first", x.of(0, 3), 20);
            DUE.is("STOOPED at first", x.of(0, 4), 0);
        }
        // A place that undo() gave up must be new again.
        NamedFountains x = new NamedFountains();
        x.image();
        x.fountain(Due.BISHOP);
        x.set(0, 1, 33);
        x.set(0, 2, 1);
        x.set(0, 3, 77);
        x.set(0, 4, 5);
        x.undo();
        x.fountain(Due.WIFE);
        int[] first = {Due.WIFE, 10, 0, 20, 0};
        for (int what = 0; what < 5; what++) {
            DUE.is("after undo, of(0, " + what + ")", x.of(0, what), first[what]);
        }
    }

    private static void uses() {
        of(5, Due.JET, 40, 0, 20, 0, 40);
        of(5, Due.JET, 1, 0, 20, 1, 0);
        of(5, Due.JET, 7, 0, 20, 1, 3);
        of(5, Due.JET, 40, 1, 20, 0, 0);
        of(5, Due.MAYOR, 40, 0, 20, 0, 80);
        of(5, Due.MAYOR, 7, 0, 20, 1, 7);
        of(5, Due.MAYOR, 40, 1, 20, 0, 0);
        of(5, Due.WIFE, 7, 0, 20, 0, 3);
        of(5, Due.WIFE, 7, 0, 20, 1, 1);
        of(5, Due.WIFE, 1, 0, 20, 0, 1);
        of(5, Due.WIFE, 1, 0, 20, 1, 0);
        of(5, Due.WIFE, 40, 1, 20, 0, 0);
        of(5, Due.BASIN, 40, 0, 20, 0, 2);
        of(5, Due.BASIN, 40, 0, 20, 1, 1);
        of(5, Due.BASIN, 40, 1, 20, 0, 0);
        of(5, Due.BISHOP, 10, 0, 19, 0, 20);
        of(5, Due.BISHOP, 10, 0, 20, 0, 19);
        of(5, Due.BISHOP, 10, 0, 99, 0, 16);
        of(5, Due.BISHOP, 2, 0, 99, 0, 0);
        of(5, Due.BISHOP, 1, 0, 99, 0, 0);
        of(5, Due.BISHOP, 1, 0, 99, 1, 0);
        of(5, Due.BISHOP, 10, 0, 20, 1, 9);
        of(5, Due.BISHOP, 10, 1, 20, 0, 0);
        of(5, Due.BOY, 40, 0, 20, 0, 1);
        of(5, Due.BOY, 40, 1, 20, 0, 1);
        of(5, Due.BOY, 40, 0, 20, 1, 0);
        of(5, Due.BOY, 40, 1, 20, 1, 0);
    }

    private static void heard() {
        of(6, Due.JET, 33, 0, 20, 0, 33);
        of(6, Due.JET, 33, 0, 20, 1, 33);
        of(6, Due.JET, 33, 1, 20, 0, 0);
        of(6, Due.MAYOR, 33, 0, 20, 0, 43);
        of(6, Due.MAYOR, 33, 1, 20, 0, 0);
        of(6, Due.WIFE, 33, 0, 20, 0, 21);
        of(6, Due.WIFE, 1, 0, 20, 0, 5);
        of(6, Due.WIFE, 33, 1, 20, 0, 0);
        of(6, Due.BASIN, 33, 0, 99, 0, 1);
        of(6, Due.BASIN, 33, 1, 99, 0, 0);
        of(6, Due.BISHOP, 33, 0, 99, 0, 43);
        of(6, Due.BISHOP, 33, 1, 99, 0, 0);
        of(6, Due.BOY, 33, 0, 9, 0, 1);
        of(6, Due.BOY, 33, 0, 99, 0, 10);
        of(6, Due.BOY, 33, 1, 10, 0, 2);
    }

    private static void gains() {
        of(7, Due.JET, 40, 0, 20, 0, 101);
        of(7, Due.JET, 40, 1, 20, 1, 99);
        of(7, Due.MAYOR, 30, 0, 20, 0, 101);
        of(7, Due.MAYOR, 30, 1, 20, 0, 99);
        of(7, Due.MAYOR, 31, 0, 20, 0, 100);
        of(7, Due.MAYOR, 31, 1, 20, 0, 100);
        of(7, Due.WIFE, 40, 0, 20, 0, 101);
        of(7, Due.WIFE, 40, 1, 20, 1, 101);
        of(7, Due.BASIN, 40, 0, 20, 0, 102);
        of(7, Due.BASIN, 40, 0, 20, 1, 101);
        of(7, Due.BASIN, 40, 1, 20, 0, 100);
        of(7, Due.BASIN, 40, 1, 20, 1, 99);
        of(7, Due.BISHOP, 30, 0, 20, 0, 100);
        of(7, Due.BISHOP, 30, 1, 20, 0, 98);
        of(7, Due.BISHOP, 31, 0, 20, 0, 99);
        of(7, Due.BISHOP, 31, 1, 20, 0, 99);
        of(7, Due.BOY, 40, 0, 20, 0, 102);
        of(7, Due.BOY, 40, 0, 20, 1, 101);
        of(7, Due.BOY, 40, 1, 20, 0, 100);
        of(7, Due.BOY, 40, 1, 20, 1, 100);
    }

    private static void givesWay() {
        of(8, Due.JET, 40, 0, 7, 0, 1033);
        of(8, Due.JET, 1, 1, 99, 1, 902);
        of(8, Due.MAYOR, 40, 0, 7, 0, 1013);
        of(8, Due.WIFE, 40, 0, 7, 0, 1033);
        of(8, Due.BASIN, 40, 0, 7, 0, 793);
        of(8, Due.BISHOP, 40, 0, 7, 0, 1018);
        of(8, Due.BOY, 40, 0, 7, 0, 593);
        of(8, Due.BOY, 40, 1, 99, 0, 501);
    }

    private static void ofWrong() {
        NamedFountains x = new NamedFountains();
        x.fountain(0);
        int[][] wrong = {{-1, 0}, {1, 0}, {8, 0}, {0, -1}, {0, 9}, {Integer.MIN_VALUE, 1}, {0, Integer.MAX_VALUE}};
        for (int[] w : wrong) {
            DUE.is("of(" + w[0] + ", " + w[1] + ")", x.of(w[0], w[1]), Due.BEYOND);
        }
        DUE.is("findings of of", x.status(0), wrong.length);
    }

    private static void set() {
        NamedFountains x = new NamedFountains();
        x.fountain(Due.WIFE);
        x.fountain(Due.JET);
        DUE.is("set(1, 1, 1)", x.set(1, 1, 1), 10);
        DUE.is("set(1, 1, 40)", x.set(1, 1, 40), 1);
        DUE.is("set(1, 2, 1)", x.set(1, 2, 1), 0);
        DUE.is("turned off by hand: STOOPED", x.of(1, 4), 0);
        DUE.is("set(1, 2, 0)", x.set(1, 2, 0), 1);
        DUE.is("set(1, 3, 99)", x.set(1, 3, 99), 20);
        DUE.is("set(1, 3, 0)", x.set(1, 3, 0), 99);
        DUE.is("set(1, 4, 9999)", x.set(1, 4, 9999), 0);
        DUE.is("set(1, 4, 0)", x.set(1, 4, 0), 9999);
        DUE.is("set(1, 4, 3)", x.set(1, 4, 3), 0);
        int[][] wrong = {{1, 1, 0}, {1, 1, 41}, {1, 2, -1}, {1, 2, 2}, {1, 3, -1}, {1, 3, 100}, {1, 4, -1},
            {1, 4, 10000}, {1, 0, 1}, {1, 5, 1}, {1, -1, 1}, {2, 1, 1}, {-1, 1, 1}};
        for (int[] w : wrong) {
            DUE.is("set(" + w[0] + ", " + w[1] + ", " + w[2] + ")", x.set(w[0], w[1], w[2]), Due.BEYOND);
        }
        DUE.is("findings of set", x.status(0), wrong.length);
        int[] is = {Due.JET, 40, 0, 0, 3};
        int[] other = {Due.WIFE, 10, 0, 20, 0};
        for (int what = 0; what < 5; what++) {
            DUE.is("of(1, " + what + ") after set", x.of(1, what), is[what]);
            DUE.is("of(0, " + what + ") after set", x.of(0, what), other[what]);
        }
    }

    private static void turn() {
        NamedFountains x = new NamedFountains();
        x.fountain(Due.JET);
        x.set(0, 1, 21);
        x.set(0, 2, 1);
        x.set(0, 3, 33);
        x.set(0, 4, 4);
        DUE.is("turn(0, 5)", x.turn(0, 5), 0);
        DUE.is("turn(0, 5) again", x.turn(0, 5), 5);
        DUE.is("turn(0, 1)", x.turn(0, 1), 5);
        int[] is = {Due.MAYOR, 21, 1, 33, 4};
        for (int what = 0; what < 5; what++) {
            DUE.is("of(0, " + what + ") after turn", x.of(0, what), is[what]);
        }
        DUE.is("turn(0, -1)", x.turn(0, -1), Due.BEYOND);
        DUE.is("turn(0, 6)", x.turn(0, 6), Due.BEYOND);
        DUE.is("turn(1, 0)", x.turn(1, 0), Due.BEYOND);
        DUE.is("turn(-1, 0)", x.turn(-1, 0), Due.BEYOND);
        DUE.is("findings of turn", x.status(0), 4);
        DUE.is("KIND after findings", x.of(0, 0), Due.MAYOR);
    }

    private static void as() {
        boolean[][] under = {
            {true, false, false, false, false, false},
            {true, true, false, false, false, false},
            {true, false, true, false, false, false},
            {true, false, false, true, false, false},
            {true, true, false, false, true, false},
            {true, false, false, true, false, true}};
        NamedFountains x = new NamedFountains();
        int refused = 0;
        for (int kind = 0; kind < 6; kind++) {
            x.fountain(kind);
            x.set(kind, 3, 30 + kind);
            for (int above = 0; above < 6; above++) {
                refused += under[kind][above] ? 0 : 1;
                int want = under[kind][above] ? 30 + kind : Due.KIND;
                DUE.is("as(" + kind + ", " + above + ")", x.as(kind, above), want);
            }
        }
        DUE.is("KIND told", x.status(2), refused);
        DUE.is("as(6, 0)", x.as(6, 0), Due.BEYOND);
        DUE.is("as(-1, 0)", x.as(-1, 0), Due.BEYOND);
        DUE.is("as(0, -1)", x.as(0, -1), Due.BEYOND);
        DUE.is("as(0, 6)", x.as(0, 6), Due.BEYOND);
        DUE.is("BEYOND told", x.status(0), 4);
    }

    private static void next() {
        NamedFountains x = new NamedFountains();
        DUE.is("next() of none", x.next(), Due.NONE);
        x.fountain(Due.BOY);
        DUE.is("next(): a boy alone", x.next(), 0);
        x.fountain(Due.BASIN);
        DUE.is("next(): a basin before a boy", x.next(), 1);
        x.fountain(Due.MAYOR);
        DUE.is("next(): a mayor before a basin", x.next(), 2);
        x.fountain(Due.BISHOP);
        DUE.is("next(): a bishop before a mayor", x.next(), 3);
        x.fountain(Due.WIFE);
        DUE.is("next(): a wife before a bishop", x.next(), 4);
        x.fountain(Due.JET);
        DUE.is("next(): a jet as a wife: the least", x.next(), 4);
        x.set(4, 3, 21);
        DUE.is("next(): a wife more loved", x.next(), 5);
        x.set(5, 2, 1);
        DUE.is("next(): one that isn't off", x.next(), 4);
        x.set(2, 1, 40);
        DUE.is("next(): a high mayor", x.next(), 2);
        for (int i = 0; i < 6; i++) {
            x.set(i, 2, 1);
        }
        DUE.is("next(): all are off", x.next(), Due.NONE);
        DUE.is("NONE told", x.status(3), 2);
        DUE.is("next() turns none off", x.count(3), 0);
    }
}
