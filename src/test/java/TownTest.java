/** Promises 1 to 4: a new object, water, week, now. */
public final class TownTest {
    private static final Due DUE = new Due("TownTest");

    public static void main(String[] args) {
        newObject();
        twoObjects();
        water();
        week();
        now();
        weekOfDay();
        DUE.end();
    }

    private static void newObject() {
        NamedFountains x = new NamedFountains();
        int[] first = {0, 0, 500, 200, 600, 3, 0, 0, 0, 0};
        for (int what = 0; what < first.length; what++) {
            DUE.is("new: now(" + what + ")", x.now(what), first[what]);
        }
        for (int what = 0; what < 4; what++) {
            DUE.is("new: count(" + what + ")", x.count(what), 0);
        }
        for (int which = -1; which < 7; which++) {
            DUE.is("new: status(" + which + ")", x.status(which), 0);
        }
        int[] rain = {3, 8, 13, 5, 10, 15, 7, 12};
        for (int w = 0; w < 8; w++) {
            DUE.is("new: rain of week " + w, x.week(w, 0, 0), rain[w]);
            DUE.is("new: cold of week " + w, x.week(w, 1, 0), 0);
        }
        DUE.is("new: of(0, 0)", x.of(0, 0), Due.BEYOND);
        DUE.is("new: wipe()", x.wipe(), 0);
        DUE.is("new: tear()", x.tear(), 0);
        DUE.is("new: undo()", x.undo(), Due.NONE);
        for (int s = 0; s < 4; s++) {
            DUE.is("new: write(" + s + ", 0, 1)", x.write(s, 0, 1), Due.MISSING);
        }
    }

    private static void twoObjects() {
        NamedFountains x = new NamedFountains();
        NamedFountains y = new NamedFountains();
        x.fountain(0);
        x.water(0, 7);
        x.week(0, 0, 50);
        x.image();
        x.feed('a', 1);
        x.sheet(0, 8, 1);
        x.now(10);
        DUE.is("another's tank", y.now(2), 500);
        DUE.is("another's rain", y.now(5), 3);
        DUE.is("another's fountains", y.count(0), 0);
        DUE.is("another's tape", y.count(1), 0);
        DUE.is("another's findings", y.status(-1), 0);
        DUE.is("another's sheet", y.lays(0), Due.MISSING);
        DUE.is("another's image", y.undo(), Due.NONE);
    }

    private static void water() {
        NamedFountains x = new NamedFountains();
        DUE.is("water(0, 9999)", x.water(0, 9999), 500);
        DUE.is("water(1, 9999)", x.water(1, 9999), 200);
        DUE.is("water(2, 9999)", x.water(2, 9999), 600);
        DUE.is("water(0, 0)", x.water(0, 0), 9999);
        DUE.is("water(1, 1)", x.water(1, 1), 9999);
        DUE.is("water(2, 2)", x.water(2, 2), 9999);
        DUE.is("now(2)", x.now(2), 0);
        DUE.is("now(3)", x.now(3), 1);
        DUE.is("now(4)", x.now(4), 2);
        int[][] wrong = {{-1, 0}, {3, 0}, {0, -1}, {0, 10000}, {1, -1}, {1, 10000}, {2, -1}, {2, 10000},
            {Integer.MIN_VALUE, 5}, {Integer.MAX_VALUE, 5}, {0, Integer.MIN_VALUE}, {0, Integer.MAX_VALUE}};
        for (int[] w : wrong) {
            DUE.is("water(" + w[0] + ", " + w[1] + ")", x.water(w[0], w[1]), Due.BEYOND);
        }
        DUE.is("findings of water", x.status(0), wrong.length);
        DUE.is("tank after findings", x.now(2), 0);
        DUE.is("drought after findings", x.now(3), 1);
        DUE.is("plenty after findings", x.now(4), 2);
    }

    private static void week() {
        NamedFountains x = new NamedFountains();
        for (int w = 0; w < 8; w++) {
            x.week(w, 0, 90 + w);
            DUE.is("cold of week " + w, x.week(w, 1, w % 2), 0);
        }
        for (int w = 0; w < 8; w++) {
            DUE.is("rain of week " + w, x.week(w, 0, 99), 90 + w);
            DUE.is("cold again of week " + w, x.week(w, 1, 1), w % 2);
        }
        DUE.is("week(0, 0, 0)", x.week(0, 0, 0), 99);
        DUE.is("week(0, 1, 0)", x.week(0, 1, 0), 1);
        int[][] wrong = {{-1, 0, 0}, {8, 0, 0}, {0, -1, 0}, {0, 2, 0}, {0, 0, -1}, {0, 0, 100}, {0, 1, -1}, {0, 1, 2},
            {Integer.MIN_VALUE, 0, 0}, {Integer.MAX_VALUE, 1, 0}};
        for (int[] w : wrong) {
            DUE.is("week(" + w[0] + ", " + w[1] + ", " + w[2] + ")", x.week(w[0], w[1], w[2]), Due.BEYOND);
        }
        DUE.is("findings of week", x.status(0), wrong.length);
        DUE.is("rain after findings", x.now(5), 0);
        DUE.is("cold after findings", x.now(6), 0);
    }

    private static void now() {
        NamedFountains x = new NamedFountains();
        x.fountain(Due.JET);
        x.fountain(Due.WIFE);
        x.fountain(Due.BOY);
        x.set(0, 2, 1);
        x.set(2, 2, 1);
        x.week(0, 0, 44);
        DUE.is("now(5)", x.now(5), 44);
        DUE.is("now(7): 0 and 2 are off", x.now(7), 5);
        DUE.is("now(8): a wife 10, a boy that is off 3", x.now(8), 13);
        DUE.is("now(9): a wife 5, a boy that is off 1", x.now(9), 6);
        x.week(0, 1, 1);
        DUE.is("now(6)", x.now(6), 1);
        DUE.is("now(8) in frost", x.now(8), 13);
        DUE.is("now(9) in frost: halved one by one", x.now(9), 2);
        x.set(0, 2, 0);
        DUE.is("now(7): 2 is off", x.now(7), 4);
        DUE.is("now(8): with a jet of 10", x.now(8), 23);
        DUE.is("now(9): with half a jet of 10", x.now(9), 7);
        x.set(0, 2, 1);
        DUE.is("now(-1)", x.now(-1), Due.BEYOND);
        DUE.is("now(10)", x.now(10), Due.BEYOND);
        DUE.is("now(MAX)", x.now(Integer.MAX_VALUE), Due.BEYOND);
        for (int i = 3; i < 8; i++) {
            x.fountain(Due.JET);
            x.set(i, 2, 1);
        }
        x.set(1, 2, 1);
        DUE.is("now(7): all eight", x.now(7), 255);
    }

    private static void weekOfDay() {
        NamedFountains x = new NamedFountains();
        int[] rain = {3, 8, 13, 5, 10, 15, 7, 12};
        for (int day = 0; day < 120; day++) {
            DUE.is("DAY " + day, x.now(0), day);
            DUE.is("WEEK of day " + day, x.now(1), day / 7 % 8);
            DUE.is("RAIN of day " + day, x.now(5), rain[day / 7 % 8]);
            x.days(1);
        }
    }
}
