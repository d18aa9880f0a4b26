/** Promises 11 to 16: days, on, then, falls, off, quiet, and how a DAY goes. */
public final class DaysTest {
    private static final Due DUE = new Due("DaysTest");

    public static void main(String[] args) {
        rainFalls();
        drought();
        plenty();
        emptyTank();
        aBoyStays();
        frost();
        lovedIsHeld();
        stoopedIsHeld();
        daysWrong();
        lastDay();
        onAndThen();
        falls();
        off();
        quiet();
        DUE.end();
    }

    private static void rainFalls() {
        NamedFountains x = new NamedFountains();
        DUE.is("seven days of 3", x.days(7), 521);
        DUE.is("one day of 8", x.days(1), 529);
        x.water(0, 9998);
        DUE.is("no more than 9999", x.days(1), 9999);
        x.fountain(Due.JET);
        DUE.is("the tank is held before it is used", x.days(1), 9989);
        DUE.is("days(100)", x.days(100), x.now(2));
        DUE.is("DAY", x.now(0), 110);
    }

    private static void drought() {
        NamedFountains x = new NamedFountains();
        x.fountain(Due.JET);
        x.water(0, 197);
        DUE.is("200 is no drought", x.days(1), 190);
        DUE.is("LOVED", x.of(0, 3), 21);
        x.water(0, 196);
        DUE.is("199 is one", x.days(1), 199);
        DUE.is("OFF", x.of(0, 2), 1);
        DUE.is("STOOPED", x.of(0, 4), 1);
        DUE.is("LOVED of one that is off", x.of(0, 3), 20);
        DUE.is("once all are off", x.days(1), 202);
        x.water(0, 0);
        DUE.is("none is left to be turned off", x.days(1), 3);
        DUE.is("STOOPED no more", x.of(0, 4), 1);

        NamedFountains y = new NamedFountains();
        y.fountain(Due.JET);
        y.fountain(Due.JET);
        y.fountain(Due.JET);
        y.set(2, 1, 11);
        y.water(0, 100);
        DUE.is("one a day", y.days(1), 83);
        DUE.is("the highest first", y.now(7), 4);
        DUE.is("another a day", y.days(1), 76);
        DUE.is("the least first", y.now(7), 5);
        DUE.is("the last", y.days(1), 79);
        DUE.is("all off", y.now(7), 7);

        NamedFountains z = new NamedFountains();
        z.fountain(Due.JET);
        z.set(0, 2, 1);
        z.water(0, 10);
        z.water(1, 100);
        z.water(2, 5);
        z.days(1);
        DUE.is("a drought, though there be plenty: none is turned on", z.of(0, 2), 1);
    }

    private static void plenty() {
        NamedFountains x = new NamedFountains();
        x.fountain(Due.JET);
        x.set(0, 2, 1);
        x.water(0, 596);
        DUE.is("599 is not plenty", x.days(1), 599);
        DUE.is("it stays off", x.of(0, 2), 1);
        DUE.is("LOVED", x.of(0, 3), 19);
        x.water(0, 597);
        DUE.is("600 is plenty", x.days(1), 590);
        DUE.is("it goes", x.of(0, 2), 0);
        DUE.is("LOVED again", x.of(0, 3), 20);
        DUE.is("STOOPED never", x.of(0, 4), 0);

        NamedFountains y = new NamedFountains();
        for (int i = 0; i < 4; i++) {
            y.fountain(Due.JET);
            y.set(i, 2, 1);
        }
        y.set(0, 3, 19);
        y.water(0, 5000);
        y.days(1);
        DUE.is("on again: who gives way least, of several the least", y.now(7), 13);
        y.days(1);
        DUE.is("on again: one a day", y.now(7), 9);
    }

    private static void emptyTank() {
        NamedFountains x = Due.dryTown(20);
        x.fountain(Due.JET);
        x.fountain(Due.MAYOR);
        x.fountain(Due.JET);
        DUE.is("by numbers: the mayor finds too little, the jet behind it enough", x.days(1), 0);
        DUE.is("the mayor is off", x.now(7), 2);
        DUE.is("STOOPED of the mayor", x.of(1, 4), 1);
        DUE.is("LOVED of the mayor", x.of(1, 3), 19);
        DUE.is("just so much is enough", x.of(2, 4), 0);
        DUE.is("LOVED of the jet", x.of(2, 3), 21);
        DUE.is("nothing is left", x.days(1), 0);
        DUE.is("all are off", x.now(7), 7);
        DUE.is("STOOPED together", x.count(3), 3);
    }

    private static void aBoyStays() {
        NamedFountains x = Due.dryTown(0);
        x.fountain(Due.BOY);
        DUE.is("no water", x.days(1), 0);
        DUE.is("a boy isn't turned off by want", x.of(0, 2), 0);
        DUE.is("nor has he stooped", x.of(0, 4), 0);
        DUE.is("and is loved more", x.of(0, 3), 22);
        x.water(0, 3);
        x.water(1, 10);
        DUE.is("a boy turned off by the committee uses water still", x.days(1), 2);
        DUE.is("he is off", x.of(0, 2), 1);
        DUE.is("he stooped", x.of(0, 4), 1);
        DUE.is("he gains nothing", x.of(0, 3), 22);
        x.water(0, 0);
        x.days(1);
        DUE.is("he stays off", x.of(0, 2), 1);
        DUE.is("he stooped once", x.of(0, 4), 1);
    }

    private static void frost() {
        NamedFountains x = Due.dryTown(100);
        x.fountain(Due.MAYOR);
        x.fountain(Due.BASIN);
        x.set(0, 1, 7);
        x.week(0, 1, 1);
        DUE.is("half is used in frost", x.days(6), 100 - 6 * 8);
        DUE.is("a basin is loved by 1 a day in frost", x.of(1, 3), 26);
        DUE.is("the seventh day is in frost too", x.days(1), 44);
        DUE.is("the eighth isn't", x.days(1), 28);
        DUE.is("a basin is loved by 2 then", x.of(1, 3), 29);
    }

    private static void lovedIsHeld() {
        NamedFountains x = Due.dryTown(5000);
        x.fountain(Due.BASIN);
        x.fountain(Due.JET);
        x.fountain(Due.BISHOP);
        x.set(0, 3, 98);
        x.set(1, 2, 1);
        x.set(1, 3, 0);
        x.set(2, 2, 1);
        x.set(2, 3, 1);
        x.days(1);
        DUE.is("99 at most", x.of(0, 3), 99);
        DUE.is("0 at least", x.of(1, 3), 0);
        DUE.is("0 at least, by 2", x.of(2, 3), 0);
    }

    private static void stoopedIsHeld() {
        NamedFountains x = Due.dryTown(0);
        x.fountain(Due.JET);
        x.set(0, 4, 9998);
        x.days(1);
        DUE.is("9999", x.of(0, 4), 9999);
        x.set(0, 2, 0);
        x.days(1);
        DUE.is("no more by want", x.of(0, 4), 9999);
        x.set(0, 2, 0);
        x.water(1, 5);
        x.days(1);
        DUE.is("no more by the committee", x.of(0, 4), 9999);
        DUE.is("OFF all the same", x.of(0, 2), 1);
    }

    private static void daysWrong() {
        NamedFountains x = new NamedFountains();
        int[] wrong = {0, -1, 101, Integer.MIN_VALUE, Integer.MAX_VALUE};
        for (int n : wrong) {
            DUE.is("days(" + n + ")", x.days(n), Due.BEYOND);
        }
        DUE.is("findings of days", x.status(0), wrong.length);
        DUE.is("DAY after findings", x.now(0), 0);
        DUE.is("TANK after findings", x.now(2), 500);
    }

    /** No object comes so far in its 512 calls, so this holds the class to more than is promised. */
    private static void lastDay() {
        NamedFountains x = new NamedFountains();
        for (int i = 0; i < 999; i++) {
            x.days(100);
        }
        DUE.is("DAY", x.now(0), 99900);
        DUE.is("above the last day", x.days(100), Due.STATE);
        DUE.is("wrong before that", x.days(101), Due.BEYOND);
        DUE.is("up to the last day", x.days(99), 9999);
        DUE.is("the last day", x.now(0), 99999);
        DUE.is("one more", x.days(1), Due.STATE);
        DUE.is("STATE told", x.status(4), 2);
        DUE.is("one may look ahead", x.on(400, 0), 9999);
    }

    private static void onAndThen() {
        NamedFountains x = Due.dryTown(25);
        x.fountain(Due.JET);
        x.fountain(Due.BASIN);
        int[] tank = {25, 13, 1, 1};
        int[] noise = {11, 11, 11, 0};
        int[] off = {0, 0, 0, 3};
        int[] loved = {20, 21, 22, 21};
        int[] stooped = {0, 0, 0, 1};
        for (int n = 0; n < 4; n++) {
            DUE.is("on(" + n + ", 0)", x.on(n, 0), tank[n]);
            DUE.is("on(" + n + ", 1)", x.on(n, 1), noise[n]);
            DUE.is("on(" + n + ", 2)", x.on(n, 2), off[n]);
            DUE.is("then(0, " + n + ", 0)", x.then(0, n, 0), off[n] & 1);
            DUE.is("then(0, " + n + ", 1)", x.then(0, n, 1), loved[n]);
            DUE.is("then(0, " + n + ", 2)", x.then(0, n, 2), stooped[n]);
        }
        DUE.is("then(1, 3, 1)", x.then(1, 3, 1), 24);
        x.set(0, 4, 7);
        DUE.is("then(0, 3, 0) of one that stooped before", x.then(0, 3, 0), 1);
        DUE.is("then(0, 3, 2) of one that stooped before", x.then(0, 3, 2), 8);
        DUE.is("on(400, 2)", x.on(400, 2), 3);
        DUE.is("then(0, 400, 1)", x.then(0, 400, 1), 0);
        int[][] wrong = {{-1, 0}, {401, 0}, {0, -1}, {0, 3}, {Integer.MAX_VALUE, 0}, {Integer.MIN_VALUE, 0}};
        for (int[] w : wrong) {
            DUE.is("on(" + w[0] + ", " + w[1] + ")", x.on(w[0], w[1]), Due.BEYOND);
            DUE.is("then(0, " + w[0] + ", " + w[1] + ")", x.then(0, w[0], w[1]), Due.BEYOND);
        }
        DUE.is("then(2, 0, 0)", x.then(2, 0, 0), Due.BEYOND);
        DUE.is("then(-1, 0, 0)", x.then(-1, 0, 0), Due.BEYOND);
        DUE.is("findings", x.status(0), 2 * wrong.length + 2);
        DUE.is("DAY is as it was", x.now(0), 0);
        DUE.is("TANK is as it was", x.now(2), 25);
        DUE.is("OFF is as it was", x.now(7), 0);
        DUE.is("LOVED is as it was", x.of(0, 3), 20);

        NamedFountains y = new NamedFountains();
        y.days(10);
        DUE.is("on(4, 0) goes on from the day that it is", y.on(4, 0), y.now(2) + 4 * 8);
        DUE.is("on(5, 0)", y.on(5, 0), y.now(2) + 4 * 8 + 13);
    }

    private static void falls() {
        NamedFountains x = Due.dryTown(25);
        x.fountain(Due.JET);
        DUE.is("falls(9999)", x.falls(9999), 0);
        DUE.is("falls(25)", x.falls(25), 0);
        DUE.is("falls(24)", x.falls(24), 1);
        DUE.is("falls(15)", x.falls(15), 1);
        DUE.is("falls(5)", x.falls(5), 2);
        DUE.is("falls(4)", x.falls(4), Due.NONE);
        x.set(0, 1, 1);
        x.water(0, 400);
        DUE.is("falls(0) in 400 days", x.falls(0), 400);
        x.water(0, 401);
        DUE.is("falls(0) in 401 days", x.falls(0), Due.NONE);
        DUE.is("falls(-1)", x.falls(-1), Due.BEYOND);
        DUE.is("falls(10000)", x.falls(10000), Due.BEYOND);
        DUE.is("TANK is as it was", x.now(2), 401);
        DUE.is("NONE told", x.status(3), 2);
        DUE.is("BEYOND told", x.status(0), 2);
    }

    private static void off() {
        NamedFountains x = Due.dryTown(399);
        x.fountain(Due.JET);
        x.fountain(Due.BOY);
        x.set(0, 1, 1);
        x.set(1, 2, 1);
        x.turn(1, Due.WIFE);
        DUE.is("one that is off", x.off(1), 0);
        DUE.is("off on the last day", x.off(0), 400);
        x.water(0, 400);
        DUE.is("off too late", x.off(0), Due.NONE);
        x.water(0, 5);
        DUE.is("off when there is none", x.off(0), 6);
        x.turn(1, Due.BOY);
        x.set(1, 2, 0);
        DUE.is("a boy is never off by want", x.off(1), Due.NONE);
        DUE.is("off(2)", x.off(2), Due.BEYOND);
        DUE.is("off(-1)", x.off(-1), Due.BEYOND);
        DUE.is("it goes as it did", x.of(0, 2), 0);
        DUE.is("NONE told", x.status(3), 2);
        DUE.is("BEYOND told", x.status(0), 2);
    }

    private static void quiet() {
        NamedFountains x = Due.dryTown(399);
        DUE.is("no fountains", x.quiet(), 0);
        x.fountain(Due.JET);
        x.set(0, 1, 1);
        DUE.is("quiet on the last day", x.quiet(), 400);
        x.water(0, 400);
        DUE.is("quiet too late", x.quiet(), Due.NONE);
        x.water(0, 0);
        DUE.is("quiet tomorrow", x.quiet(), 1);
        x.set(0, 2, 1);
        DUE.is("quiet now", x.quiet(), 0);
        x.fountain(Due.BOY);
        x.set(1, 2, 1);
        DUE.is("a boy is heard", x.quiet(), Due.NONE);
        DUE.is("NONE told", x.status(3), 2);
    }
}
