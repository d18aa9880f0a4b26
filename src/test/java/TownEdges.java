/** Promises 1 to 10: a new object, water, week, now, fountain, of, set, turn, as, next. */
final class TownEdges {
    private final Edge edge;

    TownEdges(Edge edge) {
        this.edge = edge;
    }

    void run() {
        newObject();
        water();
        week();
        now();
        nowOfMany();
        fountain();
        of();
        set();
        turn();
        as();
        next();
    }

    private static int[] oddOnes(int... ones) {
        int[] odd = java.util.Arrays.copyOf(ones, ones.length + 2);
        odd[ones.length] = Integer.MIN_VALUE;
        odd[ones.length + 1] = Integer.MAX_VALUE;
        return odd;
    }

    private void newObject() {
        edge.names("Promise 1", "No FOUNTAINS; THE TAPE is empty, no image is kept.");
        edge.at("FOUNTAINS", new NamedFountains().count(0), 0);
        edge.at("THE TAPE", new NamedFountains().count(1), 0);
        edge.at("those that are OFF", new NamedFountains().count(2), 0);
        edge.at("STOOPED together", new NamedFountains().count(3), 0);
        edge.at("no image", NamedFountains::new, NamedFountains::undo, Due.NONE);
        edge.at("none to be torn", new NamedFountains().tear(), 0);
        edge.at("findings", new NamedFountains().status(-1), 0);
        edge.within("the number of the first", new NamedFountains().fountain(0), 0);
        edge.within("the first byte", new NamedFountains().feed(32, 1), 1);
        edge.beyond("number 0", NamedFountains::new, x -> x.of(0, 0), Due.BEYOND);
        edge.beyond("an empty tape is no text", new NamedFountains().town(), -1);
        NamedFountains spoilt = Edge.rich();
        spoilt.water(0, 1);
        edge.alike("one object leaves another alone", new NamedFountains(), new NamedFountains());
    }

    private void water() {
        edge.names("Promise 2", "TANK (what 0), DROUGHT (1), PLENTY (2) becomes v: what it was. BEYOND.");
        int[] first = {500, 200, 600};
        for (int what = 0; what < 3; what++) {
            int one = what;
            NamedFountains x = new NamedFountains();
            edge.at("what " + what + ", 0", x.water(what, 0), first[what]);
            edge.within("what " + what + ", 1", x.water(what, 1), 0);
            edge.within("what " + what + ", 9998", x.water(what, 9998), 1);
            edge.at("what " + what + ", 9999", x.water(what, 9999), 9998);
            edge.at("what " + what + ", what it is", x.water(what, 9999), 9999);
            for (int other = 0; other < 3; other++) {
                edge.is("what " + what + " alone", x.now(2 + other), other == what ? 9999 : first[other]);
            }
            for (int v : oddOnes(-1, 10000)) {
                edge.beyond("what " + what + ", " + v, Edge::rich, y -> y.water(one, v), Due.BEYOND);
            }
        }
        for (int what : oddOnes(-1, 3)) {
            edge.beyond("what " + what, Edge::rich, x -> x.water(what, 5), Due.BEYOND);
        }
    }

    private void week() {
        edge.names("Promise 3", "RAIN (what 0), COLD (1) of a WEEK (0 to 7) becomes v: what it was. BEYOND.");
        int[] first = {3, 8, 13, 5, 10, 15, 7, 12};
        for (int w = 0; w < 8; w++) {
            NamedFountains x = new NamedFountains();
            edge.at("RAIN of " + w + ", 0", x.week(w, 0, 0), first[w]);
            edge.within("RAIN of " + w + ", 1", x.week(w, 0, 1), 0);
            edge.within("RAIN of " + w + ", 98", x.week(w, 0, 98), 1);
            edge.at("RAIN of " + w + ", 99", x.week(w, 0, 99), 98);
            edge.at("COLD of " + w + ", 1", x.week(w, 1, 1), 0);
            edge.at("COLD of " + w + ", 0", x.week(w, 1, 0), 1);
            edge.is("RAIN of " + w + " stays", x.week(w, 0, 99), 99);
            x.week(w, 1, 1);
            for (int v = 0; v < 8; v++) {
                edge.is("RAIN of " + w + " alone: " + v, x.week(v, 0, 0), v == w ? 99 : first[v]);
                edge.is("COLD of " + w + " alone: " + v, x.week(v, 1, 0), v == w ? 1 : 0);
            }
        }
        for (int w : oddOnes(-1, 8)) {
            edge.beyond("RAIN of " + w, Edge::rich, x -> x.week(w, 0, 5), Due.BEYOND);
            edge.beyond("COLD of " + w, Edge::rich, x -> x.week(w, 1, 1), Due.BEYOND);
        }
        for (int what : oddOnes(-1, 2)) {
            edge.beyond("what " + what, Edge::rich, x -> x.week(0, what, 1), Due.BEYOND);
        }
        for (int v : oddOnes(-1, 100)) {
            edge.beyond("RAIN " + v, Edge::rich, x -> x.week(7, 0, v), Due.BEYOND);
        }
        for (int v : oddOnes(-1, 2, 99)) {
            edge.beyond("COLD " + v, Edge::rich, x -> x.week(7, 1, v), Due.BEYOND);
        }
    }

    private void now() {
        edge.names("Promise 4", "What 0 DAY, 1 its WEEK, 2 TANK, 3 DROUGHT, 4 PLENTY, 5 RAIN of the WEEK, 6 COLD of it,"
            + " 7 those that are OFF, as a set, 8 NOISE, 9 what all USE together. BEYOND.");
        int[] first = {0, 0, 500, 200, 600, 3, 0, 0, 0, 0};
        for (int what = 0; what < 10; what++) {
            int one = what;
            edge.at("at first, what " + what, new NamedFountains().now(what), first[what]);
            edge.asks("what " + what, Edge::rich, x -> x.now(one) >= 0 ? 1 : 0, 1);
        }
        for (int what : oddOnes(-1, 10)) {
            edge.beyond("what " + what, Edge::rich, x -> x.now(what), Due.BEYOND);
        }
        // DAY 55 is the last of the year, DAY 56 the first of another; RAIN and COLD are those of its WEEK.
        NamedFountains x = Edge.late(55);
        x.week(7, 0, 71);
        x.week(7, 1, 1);
        x.week(0, 0, 72);
        edge.at("DAY 55", x.now(0), 55);
        edge.at("WEEK of DAY 55", x.now(1), 7);
        edge.at("RAIN of DAY 55", x.now(5), 71);
        edge.at("COLD of DAY 55", x.now(6), 1);
        x.days(1);
        edge.within("DAY 56", x.now(0), 56);
        edge.within("WEEK of DAY 56", x.now(1), 0);
        edge.within("RAIN of DAY 56", x.now(5), 72);
        edge.within("COLD of DAY 56", x.now(6), 0);
    }

    private void nowOfMany() {
        NamedFountains x = new NamedFountains();
        for (int i = 0; i < 8; i++) {
            x.fountain(Due.MAYOR);
            x.set(i, 1, 40);
        }
        edge.at("none of eight is OFF", x.now(7), 0);
        edge.at("NOISE is most", x.now(8), 400);
        edge.at("they USE most", x.now(9), 640);
        x.week(0, 1, 1);
        edge.at("they USE in frost", x.now(9), 320);
        x.week(0, 1, 0);
        for (int i = 0; i < 7; i++) {
            x.set(i, 2, 1);
        }
        edge.within("all are OFF but the last", x.now(7), 127);
        edge.within("NOISE of the last", x.now(8), 50);
        edge.within("what the last USES", x.now(9), 80);
        x.set(7, 2, 1);
        edge.at("all are OFF", x.now(7), 255);
        edge.at("NOISE of none", x.now(8), 0);
        edge.at("they USE nothing", x.now(9), 0);
        NamedFountains y = Edge.many(2);
        y.set(0, 1, 1);
        y.set(1, 1, 1);
        y.week(0, 1, 1);
        edge.within("halves are cut one by one", y.now(9), 0);
    }

    private void fountain() {
        edge.names("Promise 5", "One more: the number.");
        edge.at("where none are", Edge.many(0).fountain(3), 0);
        edge.within("where one is", Edge.many(1).fountain(3), 1);
        edge.within("where six are", Edge.many(6).fountain(3), 6);
        edge.at("where seven are", Edge.many(7).fountain(3), 7);
        edge.beyond("where eight are", () -> Edge.many(8), x -> x.fountain(3), Due.FULL);
        NamedFountains x = Edge.many(7);
        x.fountain(Due.BISHOP);
        int[] first = {Due.BISHOP, 10, 0, 20, 0};
        for (int what = 0; what < 5; what++) {
            edge.at("of(7, " + what + ")", x.of(7, what), first[what]);
        }
        edge.names("Promise 5", "BEYOND: kind.");
        edge.at("kind 0", new NamedFountains().fountain(0), 0);
        edge.within("kind 1", new NamedFountains().fountain(1), 0);
        edge.within("kind 4", new NamedFountains().fountain(4), 0);
        edge.at("kind 5", new NamedFountains().fountain(5), 0);
        for (int kind : oddOnes(-1, 6)) {
            edge.beyond("kind " + kind, Edge::rich, y -> y.fountain(kind), Due.BEYOND);
            edge.beyond("kind " + kind + " for a ninth", () -> Edge.many(8), y -> y.fountain(kind), Due.BEYOND);
        }
        edge.names("Promise 5", "FULL.");
        edge.within("a seventh", Edge.many(6).fountain(0), 6);
        edge.at("an eighth", Edge.many(7).fountain(0), 7);
        for (int kind = 0; kind < 6; kind++) {
            int one = kind;
            edge.beyond("a ninth of kind " + kind, () -> Edge.many(8), y -> y.fountain(one), Due.FULL);
        }
    }

    private void of() {
        edge.names("Promise 6", "Of one: what 0 KIND, 1 HIGH, 2 OFF, 3 LOVED, 4 STOOPED, 5 USES this DAY, 6 HEARD, 7 100 and"
            + " what it GAINS, 8 1000 and what it GIVES WAY by. BEYOND.");
        NamedFountains x = Edge.many(8);
        int[] first = {Due.JET, 10, 0, 20, 0, 10, 10, 101, 990};
        for (int what = 0; what < 9; what++) {
            int one = what;
            edge.at("of(0, " + what + ")", x.of(0, what), first[what]);
            edge.at("of(7, " + what + ")", x.of(7, what), first[what]);
            edge.asks("of(1, " + what + ")", Edge::rich, y -> y.of(1, one) >= 0 ? 1 : 0, 1);
        }
        edge.within("of(6, 8)", x.of(6, 8), 990);
        for (int fountain : oddOnes(-1, 4, 8)) {
            edge.beyond("of(" + fountain + ", 0)", Edge::rich, y -> y.of(fountain, 0), Due.BEYOND);
        }
        for (int what : oddOnes(-1, 9)) {
            edge.beyond("of(0, " + what + ")", Edge::rich, y -> y.of(0, what), Due.BEYOND);
        }
        edge.beyond("of(8, 0)", () -> Edge.many(8), y -> y.of(8, 0), Due.BEYOND);
        edge.at("the least that is told of GAINS", Edge.one(Due.BISHOP, 10, 1, 20, 0).of(0, 7), 98);
        edge.at("the least that is told of GIVES WAY", Edge.one(Due.BOY, 10, 0, 99, 0).of(0, 8), 501);
        edge.at("the most that is told of GIVES WAY", Edge.one(Due.JET, 40, 0, 0, 0).of(0, 8), 1040);
        NamedFountains y = Edge.late(6);
        y.fountain(Due.JET);
        y.week(1, 1, 1);
        edge.within("USES this DAY, the last ahead of frost", y.of(0, 5), 10);
        y.days(1);
        edge.at("USES this DAY, the first of frost", y.of(0, 5), 5);
    }

    private void set() {
        edge.names("Promise 7", "HIGH (what 1), OFF (2), LOVED (3), STOOPED (4) of one becomes v: what it was. BEYOND.");
        int[] first = {0, 10, 0, 20, 0};
        int[] least = {0, 1, 0, 0, 0};
        int[] most = {0, 40, 1, 99, 9999};
        for (int what = 1; what < 5; what++) {
            int one = what;
            NamedFountains x = Edge.many(8);
            edge.at("what " + what + " of 7, the least", x.set(7, what, least[what]), first[what]);
            edge.within("what " + what + " of 7, one more", x.set(7, what, least[what] + 1), least[what]);
            edge.within("what " + what + " of 7, one less than most", x.set(7, what, most[what] - 1), least[what] + 1);
            edge.at("what " + what + " of 7, the most", x.set(7, what, most[what]), most[what] - 1);
            for (int other = 0; other < 5; other++) {
                edge.is("what " + what + " of 7 alone: " + other, x.of(7, other), other == what ? most[what] : first[other]);
                edge.is("what " + what + " of 6: " + other, x.of(6, other), first[other]);
            }
            for (int v : oddOnes(least[what] - 1, most[what] + 1)) {
                edge.beyond("what " + what + ", " + v, Edge::rich, y -> y.set(2, one, v), Due.BEYOND);
            }
        }
        for (int what : oddOnes(-1, 0, 5)) {
            edge.beyond("what " + what, Edge::rich, x -> x.set(0, what, 1), Due.BEYOND);
        }
        for (int fountain : oddOnes(-1, 4)) {
            edge.beyond("of " + fountain, Edge::rich, x -> x.set(fountain, 1, 5), Due.BEYOND);
        }
        edge.beyond("of 8", () -> Edge.many(8), x -> x.set(8, 1, 5), Due.BEYOND);
        edge.beyond("of 0, where none is", NamedFountains::new, x -> x.set(0, 1, 5), Due.BEYOND);
    }

    private void turn() {
        edge.names("Promise 8", "One becomes one of another KIND: what it was. BEYOND.");
        NamedFountains x = Edge.many(8);
        edge.at("7 of kind 5", x.turn(7, 5), 0);
        edge.within("7 of kind 4", x.turn(7, 4), 5);
        edge.within("7 of kind 1", x.turn(7, 1), 4);
        edge.at("7 of kind 0", x.turn(7, 0), 1);
        edge.at("7 of the kind that it is", x.turn(7, 0), 0);
        edge.at("0 of kind 3", x.turn(0, 3), 0);
        edge.is("KIND of 0", x.of(0, 0), 3);
        edge.is("KIND of 1", x.of(1, 0), 0);
        edge.is("no findings", x.status(-1), 0);
        for (int kind : oddOnes(-1, 6)) {
            edge.beyond("kind " + kind, Edge::rich, y -> y.turn(0, kind), Due.BEYOND);
        }
        for (int fountain : oddOnes(-1, 4)) {
            edge.beyond("fountain " + fountain, Edge::rich, y -> y.turn(fountain, 0), Due.BEYOND);
        }
        edge.beyond("fountain 8", () -> Edge.many(8), y -> y.turn(8, 0), Due.BEYOND);
        NamedFountains y = Edge.one(Due.JET, 21, 1, 33, 1);
        y.set(0, 4, 4);
        y.turn(0, Due.BISHOP);
        int[] is = {Due.BISHOP, 21, 1, 33, 4};
        for (int what = 0; what < 5; what++) {
            edge.within("all else stays, what " + what, y.of(0, what), is[what]);
        }
    }

    private void as() {
        edge.plain("Promise 9", "One as one of a kind: LOVED.");
        edge.is("0", Edge.one(Due.BOY, 10, 0, 0, 0).as(0, Due.JET), 0);
        edge.is("99", Edge.one(Due.BOY, 10, 0, 99, 0).as(0, Due.BASIN), 99);
        NamedFountains six = Edge.many(6);
        for (int kind = 0; kind < 6; kind++) {
            six.turn(kind, kind);
            six.set(kind, 3, 30 + kind);
        }
        for (int kind = 0; kind < 6; kind++) {
            edge.is("of six, " + kind + " as what it is", six.as(kind, kind), 30 + kind);
        }
        edge.names("Promise 9", "BEYOND: no such one, kind.");
        edge.at("the first", Edge.many(8).as(0, 0), 20);
        edge.at("the eighth", Edge.many(8).as(7, 0), 20);
        edge.within("the seventh", Edge.many(8).as(6, 0), 20);
        edge.beyond("the ninth", () -> Edge.many(8), x -> x.as(8, 0), Due.BEYOND);
        for (int fountain : oddOnes(-1, 4)) {
            edge.beyond("fountain " + fountain, Edge::rich, x -> x.as(fountain, 0), Due.BEYOND);
        }
        for (int kind : oddOnes(-1, 6)) {
            edge.beyond("kind " + kind, Edge::rich, x -> x.as(0, kind), Due.BEYOND);
        }
        edge.beyond("neither", Edge::rich, x -> x.as(4, 6), Due.BEYOND);
        edge.names("Promise 9", "KIND: it isn't of that kind, nor of one under it.");
        // Of each kind: the kinds that it is of, as a set.
        int[] under = {1, 3, 5, 9, 19, 41};
        for (int kind = 0; kind < 6; kind++) {
            for (int above = 0; above < 6; above++) {
                int is = kind;
                int as = above;
                String call = "kind " + kind + " as kind " + above;
                if (kind == above) {
                    edge.at(call, Edge.one(kind, 10, 0, 44, 0).as(0, above), 44);
                } else if ((under[kind] >> above & 1) == 1) {
                    edge.within(call, Edge.one(kind, 10, 0, 44, 0).as(0, above), 44);
                } else {
                    edge.beyond(call, () -> Edge.one(is, 10, 0, 44, 0), x -> x.as(0, as), Due.KIND);
                }
            }
        }
    }

    private void next() {
        edge.names("Promise 10", "Which one would be turned OFF next (GIVES WAY most of those that aren't OFF).");
        edge.at("two alike", Edge.jets(0, 10, 10).next(), 0);
        edge.within("the second is greater", Edge.jets(0, 10, 11).next(), 1);
        edge.beyond("the first is greater", Edge.jets(0, 11, 10).next(), 0);
        edge.within("the last of eight", Edge.jets(0, 10, 10, 10, 10, 10, 10, 10, 11).next(), 7);
        edge.within("the greatest stands between others", Edge.jets(0, 5, 20, 10).next(), 1);
        edge.at("the least of several stands between others", Edge.jets(0, 5, 20, 10, 20, 15).next(), 1);
        NamedFountains x = Edge.jets(0, 12, 11, 10);
        x.set(0, 2, 1);
        edge.within("the greatest is OFF", x.next(), 1);
        x.set(1, 2, 1);
        edge.at("one alone isn't", x.next(), 2);
        edge.asks("it only asks", Edge::rich, y -> y.next() >= 0 ? 1 : 0, 1);
        NamedFountains boy = Edge.one(Due.BOY, 1, 0, 99, 0);
        edge.at("a boy, who gives way least of all", boy.next(), 0);
        edge.names("Promise 10", "NONE: all are OFF.");
        edge.within("two aren't", Edge.many(2).next(), 0);
        NamedFountains y = Edge.many(8);
        for (int i = 0; i < 7; i++) {
            y.set(i, 2, 1);
        }
        edge.at("the last isn't", y.next(), 7);
        edge.beyond("all eight are", TownEdges::allOff, NamedFountains::next, Due.NONE);
        edge.beyond("there are none", NamedFountains::new, NamedFountains::next, Due.NONE);
        edge.beyond("a boy that is OFF", () -> Edge.one(Due.BOY, 10, 1, 20, 0), NamedFountains::next, Due.NONE);
    }

    private static NamedFountains allOff() {
        NamedFountains x = Edge.many(8);
        for (int i = 0; i < 8; i++) {
            x.set(i, 2, 1);
        }
        return x;
    }
}
