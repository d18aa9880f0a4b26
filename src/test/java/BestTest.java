/** Promises 17 to 23: best, high, loved, kind, rain, enough, rule. */
public final class BestTest {
    private static final Due DUE = new Due("BestTest");

    public static void main(String[] args) {
        best();
        high();
        loved();
        kind();
        rain();
        enough();
        rule();
        nothingChanges();
        DUE.end();
    }

    private static void best() {
        NamedFountains x = Due.dryTown(500);
        DUE.is("best(1) of none", x.best(1), Due.NONE);
        x.fountain(Due.JET);
        x.fountain(Due.JET);
        DUE.is("of several the least", x.best(1), 0);
        x.set(1, 1, 20);
        DUE.is("the one that uses more", x.best(1), 1);
        x.fountain(Due.MAYOR);
        x.set(2, 1, 40);
        x.set(2, 2, 1);
        DUE.is("not one that is off", x.best(1), 1);
        x.set(2, 2, 0);
        DUE.is("the mayor", x.best(1), 2);
        DUE.is("best(100) when all run dry", x.best(100), 0);
        DUE.is("best(0)", x.best(0), Due.BEYOND);
        DUE.is("best(101)", x.best(101), Due.BEYOND);
        DUE.is("best(-1)", x.best(-1), Due.BEYOND);
        for (int i = 0; i < 3; i++) {
            x.set(i, 2, 1);
        }
        DUE.is("all are off", x.best(1), Due.NONE);
        DUE.is("BEYOND is asked before NONE", x.best(0), Due.BEYOND);
        DUE.is("BEYOND told", x.status(0), 4);
        DUE.is("NONE told", x.status(3), 2);

        // With plenty from 480 on, the one turned off is on again the same day, unless another is off that
        // gives way less; the tank is what counts.
        NamedFountains y = Due.dryTown(480);
        y.water(2, 480);
        y.fountain(Due.JET);
        y.fountain(Due.JET);
        y.set(1, 1, 30);
        DUE.is("whoever is turned off is on again the same day", y.best(1), 0);
        y.fountain(Due.BASIN);
        y.set(2, 2, 1);
        DUE.is("a basin is turned on before", y.best(1), 1);
    }

    private static void high() {
        NamedFountains x = Due.dryTown(23);
        x.fountain(Due.JET);
        DUE.is("high(0, 1)", x.high(0, 1), 23);
        DUE.is("high(0, 2)", x.high(0, 2), 11);
        DUE.is("high(0, 23)", x.high(0, 23), 1);
        DUE.is("high(0, 24)", x.high(0, 24), Due.NONE);
        x.water(0, 9999);
        DUE.is("forty feet", x.high(0, 100), 40);
        x.water(0, 23);
        x.set(0, 2, 1);
        DUE.is("one that is off isn't turned off", x.high(0, 100), 40);
        x.set(0, 2, 0);
        x.set(0, 4, 7);
        DUE.is("one that stooped before", x.high(0, 1), 23);
        x.turn(0, Due.MAYOR);
        DUE.is("a mayor", x.high(0, 1), 11);
        x.fountain(Due.JET);
        DUE.is("only the one counts", x.high(1, 1), 3);
        DUE.is("BEYOND: no such one", x.high(2, 1), Due.BEYOND);
        DUE.is("BEYOND: no such one below", x.high(-1, 1), Due.BEYOND);
        DUE.is("BEYOND: no days", x.high(0, 0), Due.BEYOND);
        DUE.is("BEYOND: too many days", x.high(0, 101), Due.BEYOND);
        DUE.is("BEYOND told", x.status(0), 4);
        DUE.is("NONE told", x.status(3), 1);

        // 100 is a drought, one a day is turned off: 0 gives way as long as it is higher than 1, or as high.
        NamedFountains y = Due.dryTown(100);
        y.water(1, 200);
        y.fountain(Due.JET);
        y.fountain(Due.JET);
        DUE.is("lower than the other", y.high(0, 1), 9);
        DUE.is("as high as the other", y.high(1, 1), 10);
        DUE.is("no height helps for two days", y.high(0, 2), Due.NONE);
    }

    private static void loved() {
        NamedFountains x = Due.dryTown(100);
        x.water(1, 200);
        x.fountain(Due.JET);
        x.fountain(Due.JET);
        DUE.is("more loved than the other", x.loved(0, 1), 21);
        DUE.is("as loved as the other", x.loved(1, 1), 20);
        DUE.is("no love helps for two days", x.loved(1, 2), Due.NONE);
        x.set(1, 3, 99);
        DUE.is("none can be loved more than 99", x.loved(0, 1), Due.NONE);
        x.set(0, 3, 99);
        x.set(0, 1, 9);
        DUE.is("99 is enough with less height", x.loved(0, 1), 99);
        x.water(1, 0);
        DUE.is("no drought", x.loved(0, 1), 0);
        x.water(1, 200);
        x.set(0, 2, 1);
        x.set(0, 4, 3);
        DUE.is("one that is off isn't turned off", x.loved(0, 100), 0);
        DUE.is("BEYOND: no such one", x.loved(2, 1), Due.BEYOND);
        DUE.is("BEYOND: no such one below", x.loved(-1, 1), Due.BEYOND);
        DUE.is("BEYOND: no days", x.loved(0, 0), Due.BEYOND);
        DUE.is("BEYOND: too many days", x.loved(0, 101), Due.BEYOND);
        DUE.is("BEYOND told", x.status(0), 4);
        DUE.is("NONE told", x.status(3), 2);
    }

    private static void kind() {
        NamedFountains x = Due.dryTown(798);
        x.fountain(Due.MAYOR);
        DUE.is("only a boy goes more than 400 days", x.kind(0), Due.BOY);
        x.water(0, 800);
        DUE.is("a basin does too", x.kind(0), Due.BASIN);
        x.set(0, 1, 1);
        DUE.is("a low jet does too", x.kind(0), Due.JET);
        x.set(0, 1, 10);
        x.set(0, 2, 1);
        DUE.is("one that is off: all the same", x.kind(0), Due.JET);
        DUE.is("its own kind stays", x.of(0, 0), Due.MAYOR);
        DUE.is("kind(1)", x.kind(1), Due.BEYOND);
        DUE.is("kind(-1)", x.kind(-1), Due.BEYOND);
        DUE.is("BEYOND told", x.status(0), 2);

        NamedFountains y = Due.dryTown(100);
        y.water(1, 200);
        y.fountain(Due.JET);
        y.fountain(Due.JET);
        y.set(1, 3, 30);
        DUE.is("a mayor gives way behind the other", y.kind(0), Due.MAYOR);
        y.set(1, 3, 45);
        DUE.is("only a basin and a boy do", y.kind(0), Due.BASIN);
    }

    private static void rain() {
        NamedFountains x = Due.dryTown(0);
        x.days(7);
        DUE.is("of several the least", x.rain(100), 0);
        x.fountain(Due.JET);
        DUE.is("rain in the week that it is", x.rain(1), 1);
        DUE.is("rain in the week that comes is too late", x.rain(8), 0);
        x.set(0, 1, 11);
        DUE.is("10 are too little", x.rain(1), 0);
        x.set(0, 1, 20);
        x.fountain(Due.MAYOR);
        x.set(1, 1, 40);
        x.week(1, 0, 90);
        DUE.is("99 at most", x.rain(1), 0);
        x.set(0, 1, 19);
        DUE.is("99 are enough", x.rain(1), 1);
        DUE.is("rain(0)", x.rain(0), Due.BEYOND);
        DUE.is("rain(101)", x.rain(101), Due.BEYOND);
        DUE.is("BEYOND told", x.status(0), 2);
        DUE.is("RAIN stays", x.now(5), 90);
    }

    private static void enough() {
        NamedFountains x = Due.dryTown(500);
        DUE.is("no fountains", x.enough(60), 0);
        x.fountain(Due.JET);
        DUE.is("enough(1)", x.enough(1), 10);
        DUE.is("enough(60)", x.enough(60), 600);
        x.set(0, 1, 11);
        DUE.is("in steps of ten", x.enough(1), 20);
        x.set(0, 1, 10);
        x.set(0, 4, 9);
        DUE.is("one that stooped before", x.enough(3), 30);
        // From 100 on the mayor is turned on, and want turns him off: less is enough, more isn't.
        x.fountain(Due.MAYOR);
        x.set(1, 1, 40);
        x.set(1, 2, 1);
        x.water(2, 100);
        DUE.is("the least", x.enough(3), 30);
        DUE.is("above what wakes the mayor", x.enough(11), 990);
        x.water(1, 200);
        DUE.is("out of drought", x.enough(1), 200);
        for (int i = 2; i < 8; i++) {
            x.fountain(Due.MAYOR);
            x.set(i, 1, 40);
        }
        DUE.is("no tank is enough", x.enough(60), Due.NONE);
        DUE.is("enough(0)", x.enough(0), Due.BEYOND);
        DUE.is("enough(61)", x.enough(61), Due.BEYOND);
        DUE.is("BEYOND told", x.status(0), 2);
        DUE.is("NONE told", x.status(3), 1);
        DUE.is("TANK stays", x.now(2), 500);

        NamedFountains y = Due.dryTown(500);
        y.fountain(Due.MAYOR);
        y.fountain(Due.MAYOR);
        y.set(0, 1, 40);
        y.set(1, 1, 40);
        y.week(0, 0, 33);
        // 60 days of 160 are 9600, eleven of them have 33 of rain: 9237 would be just enough.
        DUE.is("160 a day", y.enough(60), 9240);
        y.week(0, 0, 0);
        y.fountain(Due.JET);
        y.set(2, 1, 25);
        DUE.is("54 days of 185: 9990 is tried", y.enough(54), 9990);
        y.set(2, 1, 26);
        DUE.is("nothing above it is", y.enough(54), Due.NONE);
    }

    private static void rule() {
        NamedFountains x = Due.dryTown(200);
        DUE.is("no fountains", x.rule(100), 0);
        x.fountain(Due.MAYOR);
        x.set(0, 1, 40);
        for (int i = 1; i < 4; i++) {
            x.fountain(Due.JET);
        }
        // Below 100 want turns off all four; from 100 to 200 the mayor goes on the second day and a jet on
        // the third; above 200 one goes each day.
        DUE.is("rule(3)", x.rule(3), 100);
        DUE.is("rule(1): none stoops with 0", x.rule(1), 0);
        x.set(0, 4, 50);
        DUE.is("what they stooped before is the same for all", x.rule(3), 100);
        DUE.is("rule(0)", x.rule(0), Due.BEYOND);
        DUE.is("rule(101)", x.rule(101), Due.BEYOND);
        DUE.is("BEYOND told", x.status(0), 2);
        DUE.is("DROUGHT stays", x.now(3), 0);

        // Only above 999 one is turned off on the first day, so that of eight one less stoops on the second.
        NamedFountains y = Due.dryTown(999);
        for (int i = 0; i < 8; i++) {
            y.fountain(Due.MAYOR);
            y.set(i, 1, 40);
        }
        DUE.is("1000 is tried", y.rule(2), 1000);
        y.water(0, 1000);
        DUE.is("1050 isn't", y.rule(2), 0);
    }

    private static void nothingChanges() {
        NamedFountains x = new NamedFountains();
        for (int kind = 0; kind < 6; kind++) {
            x.fountain(kind);
        }
        String before = all(x);
        x.best(100);
        x.high(1, 100);
        x.loved(1, 100);
        x.kind(1);
        x.rain(100);
        x.enough(60);
        x.rule(100);
        x.next();
        x.falls(0);
        x.off(1);
        x.quiet();
        DUE.is("all stays as it was", before.equals(all(x)) ? 1 : 0, 1);
    }

    /** All that can be asked of a town, week by week and one by one. */
    private static String all(NamedFountains x) {
        StringBuilder text = new StringBuilder();
        for (int what = 0; what < 10; what++) {
            text.append(x.now(what)).append(' ');
        }
        for (int i = 0; i < x.count(0); i++) {
            for (int what = 0; what < 9; what++) {
                text.append(x.of(i, what)).append(' ');
            }
        }
        for (int n = 0; n < 60; n++) {
            text.append(x.on(n, 0)).append(' ');
        }
        return text.toString();
    }
}
