/** Promises 11 to 16: days, on, then, falls, off, quiet. */
final class DaysEdges {
    private static final int[] NOT_DAYS = {0, -1, 101, Integer.MIN_VALUE, Integer.MAX_VALUE};
    private static final int[] NOT_AHEAD = {-1, 401, Integer.MIN_VALUE, Integer.MAX_VALUE};
    private final Edge edge;

    DaysEdges(Edge edge) {
        this.edge = edge;
    }

    void run() {
        days();
        state();
        on();
        then();
        falls();
        fallsFirst();
        off();
        quiet();
    }

    private void days() {
        edge.names("Promise 11", "n DAYS go (1 to 100): TANK then. BEYOND.");
        edge.at("days(1)", Edge.jets(5000, 10).days(1), 4990);
        edge.within("days(2)", Edge.jets(5000, 10).days(2), 4980);
        edge.within("days(99)", Edge.jets(5000, 10).days(99), 4010);
        edge.at("days(100)", Edge.jets(5000, 10).days(100), 4000);
        NamedFountains x = Edge.jets(5000, 10);
        x.days(100);
        edge.at("DAY", x.now(0), 100);
        edge.at("TANK", x.now(2), 4000);
        for (int n : NOT_DAYS) {
            edge.beyond("days(" + n + ")", Edge::rich, y -> y.days(n), Due.BEYOND);
        }
        NamedFountains one = Edge.rich();
        NamedFountains other = Edge.rich();
        one.days(100);
        for (int i = 0; i < 100; i++) {
            other.days(1);
        }
        edge.alike("a hundred days at once are as a hundred times one", one, other);
    }

    private void state() {
        edge.names("Promise 11", "STATE: DAY would be above 99999.");
        edge.within("99998", Edge.late(99898).days(100), 9999);
        edge.at("99999 by 100", Edge.late(99899).days(100), 9999);
        edge.beyond("100000 by 100", () -> Edge.late(99900), x -> x.days(100), Due.STATE);
        edge.at("99999 by 1", Edge.late(99998).days(1), 9999);
        edge.beyond("100000 by 1", () -> Edge.late(99999), x -> x.days(1), Due.STATE);
        edge.beyond("100099 by 100", () -> Edge.late(99999), x -> x.days(100), Due.STATE);
        NamedFountains x = Edge.late(99999);
        x.week(Edge.late(99999).now(1), 0, 0);
        x.water(0, 77);
        edge.is("one may look on from the last DAY", x.on(1, 0), 77);
    }

    private void on() {
        edge.names("Promise 12", "TANK (what 0), NOISE (1), those that are OFF, as a set (2) ON n DAYS (0 to 400). BEYOND.");
        // A jet of 1 with 400 in the tank has some on 400 days and none on the next.
        NamedFountains x = Edge.jets(400, 1);
        edge.at("on(0, 0)", x.on(0, 0), 400);
        edge.within("on(1, 0)", x.on(1, 0), 399);
        edge.within("on(399, 0)", x.on(399, 0), 1);
        edge.at("on(400, 0)", x.on(400, 0), 0);
        x.water(0, 399);
        edge.at("on(0, 1)", x.on(0, 1), 1);
        edge.within("on(399, 1)", x.on(399, 1), 1);
        edge.at("on(400, 1)", x.on(400, 1), 0);
        edge.at("on(0, 2)", x.on(0, 2), 0);
        edge.within("on(399, 2)", x.on(399, 2), 0);
        edge.at("on(400, 2)", x.on(400, 2), 1);
        edge.is("nothing has changed", x.now(0) * 10 + x.now(7), 0);
        for (int n : NOT_AHEAD) {
            for (int what = 0; what < 3; what++) {
                int one = what;
                edge.beyond("on(" + n + ", " + what + ")", Edge::rich, y -> y.on(n, one), Due.BEYOND);
            }
        }
        int[] mayNot = {-1, 3, Integer.MIN_VALUE, Integer.MAX_VALUE};
        for (int what : mayNot) {
            edge.beyond("on(0, " + what + ")", Edge::rich, y -> y.on(0, what), Due.BEYOND);
        }
        for (int what = 0; what < 3; what++) {
            int one = what;
            edge.asks("on(400, " + what + ") only asks", Edge::rich, y -> y.on(400, one) >= 0 ? 1 : 0, 1);
        }
    }

    private void then() {
        edge.names("Promise 13", "OFF (what 0), LOVED (1), STOOPED (2) of one ON n DAYS (0 to 400). BEYOND.");
        NamedFountains x = Edge.jets(399, 40, 1);
        x.set(0, 2, 1);
        x.set(1, 3, 7);
        x.set(1, 4, 3);
        edge.at("then(1, 0, 0)", x.then(1, 0, 0), 0);
        edge.within("then(1, 399, 0)", x.then(1, 399, 0), 0);
        edge.at("then(1, 400, 0)", x.then(1, 400, 0), 1);
        edge.at("then(1, 0, 1)", x.then(1, 0, 1), 7);
        edge.within("then(1, 1, 1)", x.then(1, 1, 1), 8);
        edge.within("then(1, 399, 1)", x.then(1, 399, 1), 99);
        edge.at("then(1, 400, 1)", x.then(1, 400, 1), 98);
        edge.at("then(1, 0, 2)", x.then(1, 0, 2), 3);
        edge.within("then(1, 399, 2)", x.then(1, 399, 2), 3);
        edge.at("then(1, 400, 2)", x.then(1, 400, 2), 4);
        edge.is("then(0, 0, 0)", x.then(0, 0, 0), 1);
        edge.is("then(0, 400, 1)", x.then(0, 400, 1), 0);
        edge.at("the eighth", Edge.many(8).then(7, 0, 1), 20);
        for (int n : NOT_AHEAD) {
            for (int what = 0; what < 3; what++) {
                int one = what;
                edge.beyond("then(0, " + n + ", " + what + ")", Edge::rich, y -> y.then(0, n, one), Due.BEYOND);
            }
        }
        int[] mayNot = {-1, 3, Integer.MIN_VALUE, Integer.MAX_VALUE};
        for (int what : mayNot) {
            edge.beyond("then(0, 0, " + what + ")", Edge::rich, y -> y.then(0, 0, what), Due.BEYOND);
        }
        int[] none = {-1, 4, 8, Integer.MIN_VALUE, Integer.MAX_VALUE};
        for (int fountain : none) {
            edge.beyond("then(" + fountain + ", 0, 0)", Edge::rich, y -> y.then(fountain, 0, 0), Due.BEYOND);
        }
        edge.beyond("a ninth", () -> Edge.many(8), y -> y.then(8, 0, 0), Due.BEYOND);
        for (int what = 0; what < 3; what++) {
            int one = what;
            edge.asks("then(3, 400, " + what + ") only asks", Edge::rich, y -> y.then(3, 400, one) >= 0 ? 1 : 0, 1);
        }
    }

    private void falls() {
        edge.names("Promise 14", "In how many DAYS (0 to 400) ON TANK is v (0 to 9999) or less first. BEYOND. NONE.");
        edge.at("what it is", Edge.jets(25, 10).falls(25), 0);
        edge.within("one more than it is", Edge.jets(25, 10).falls(26), 0);
        edge.beyond("one less than it is", Edge.jets(25, 10).falls(24), 1);
        edge.within("16", Edge.jets(25, 10).falls(16), 1);
        edge.at("15", Edge.jets(25, 10).falls(15), 1);
        edge.beyond("14", Edge.jets(25, 10).falls(14), 2);
        edge.at("v 9999", Edge.jets(9999, 10).falls(9999), 0);
        edge.within("v 9998", Edge.jets(9999, 10).falls(9998), 1);
        edge.within("v 1", Edge.jets(2, 1).falls(1), 1);
        edge.at("v 0", Edge.jets(2, 1).falls(0), 2);
        edge.within("in 399 days", Edge.jets(399, 1).falls(0), 399);
        edge.at("in 400 days", Edge.jets(400, 1).falls(0), 400);
        edge.beyond("in 401 days", () -> Edge.jets(401, 1), x -> x.falls(0), Due.NONE);
        edge.beyond("never", () -> Edge.jets(25, 10), x -> x.falls(4), Due.NONE);
        int[] wrong = {-1, 10000, Integer.MIN_VALUE, Integer.MAX_VALUE};
        for (int v : wrong) {
            edge.beyond("v " + v, Edge::rich, x -> x.falls(v), Due.BEYOND);
        }
        edge.asks("it only asks", () -> Edge.jets(400, 1), x -> x.falls(0), 400);
    }

    private void fallsFirst() {
        // 70 are gone on day 7; week 1 has 99 a day, so that there is water again behind that.
        NamedFountains x = Edge.jets(70, 10);
        x.week(1, 0, 99);
        edge.at("the first of several days", x.falls(0), 7);
        edge.is("there is more on day 8", x.on(8, 0), 89);
    }

    private void off() {
        edge.names("Promise 15", "In how many DAYS (0 to 400) ON one is OFF first. BEYOND. NONE.");
        NamedFountains now = Edge.jets(25, 10);
        now.set(0, 2, 1);
        edge.at("it is now", now.off(0), 0);
        edge.within("tomorrow", Edge.jets(9, 10).off(0), 1);
        edge.within("in 399 days", Edge.jets(398, 1).off(0), 399);
        edge.at("in 400 days", Edge.jets(399, 1).off(0), 400);
        edge.beyond("in 401 days", () -> Edge.jets(400, 1), x -> x.off(0), Due.NONE);
        // Turned off in the drought of day 1, and on again in week 1, which has 99 a day, from a PLENTY of 200 on.
        NamedFountains again = Edge.jets(70, 10);
        again.week(1, 0, 99);
        again.water(2, 200);
        again.water(1, 100);
        edge.at("the first of several days", again.off(0), 1);
        edge.is("it goes again then", again.then(0, 10, 0), 0);
        edge.at("the eighth", Edge.jets(8, 1, 1, 1, 1, 1, 1, 1, 2).off(7), 1);
        edge.beyond("a ninth", () -> Edge.many(8), x -> x.off(8), Due.BEYOND);
        int[] none = {-1, 4, 8, Integer.MIN_VALUE, Integer.MAX_VALUE};
        for (int fountain : none) {
            edge.beyond("of " + fountain, Edge::rich, x -> x.off(fountain), Due.BEYOND);
        }
        edge.asks("it only asks", () -> Edge.jets(399, 1), x -> x.off(0), 400);
    }

    private void quiet() {
        edge.names("Promise 16", "In how many DAYS (0 to 400) ON NOISE is 0 first. NONE.");
        edge.at("there are none", new NamedFountains().quiet(), 0);
        NamedFountains now = Edge.jets(25, 10, 1);
        now.set(0, 2, 1);
        edge.within("one goes", Edge.jets(9, 10).quiet(), 1);
        edge.within("the other goes", now.quiet(), 26);
        now.set(1, 2, 1);
        edge.at("all are OFF", now.quiet(), 0);
        edge.within("in 399 days", Edge.jets(398, 1).quiet(), 399);
        edge.at("in 400 days", Edge.jets(399, 1).quiet(), 400);
        edge.beyond("in 401 days", () -> Edge.jets(400, 1), NamedFountains::quiet, Due.NONE);
        edge.beyond("a boy is HEARD always", () -> Edge.one(Due.BOY, 1, 1, 0, 0), NamedFountains::quiet, Due.NONE);
        edge.asks("it only asks", () -> Edge.jets(399, 1), NamedFountains::quiet, 400);
        // Quiet on day 1 already, and loud again from day 10 on, and quiet again in the end.
        NamedFountains again = Edge.jets(70, 10);
        again.week(1, 0, 99);
        again.water(2, 200);
        again.water(1, 100);
        edge.at("the first of several days", again.quiet(), 1);
        edge.is("it is loud then", again.on(10, 1), 10);
    }
}
