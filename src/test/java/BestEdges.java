/** Promises 17 to 23: best, high, loved, kind, rain, enough, rule. */
final class BestEdges {
    private static final int[] NOT_DAYS = {0, -1, 101, Integer.MIN_VALUE, Integer.MAX_VALUE};
    private static final int[] NOBODY = {-1, 4, 8, Integer.MIN_VALUE, Integer.MAX_VALUE};
    private final Edge edge;

    BestEdges(Edge edge) {
        this.edge = edge;
    }

    void run() {
        best();
        bestOfNone();
        high();
        highAgainstOthers();
        loved();
        lovedOfABishop();
        kind();
        rain();
        rainAtMost();
        enough();
        enoughOfAll();
        rule();
        ruleSteps();
    }

    private void best() {
        edge.names("Promise 17", "Which one, turned OFF now (one that isn't), makes TANK most ON n DAYS (1 to 100); of several"
            + " the least. BEYOND.");
        edge.at("two alike", Edge.jets(500, 10, 10).best(1), 0);
        edge.within("the second uses 1 more", Edge.jets(500, 10, 11).best(1), 1);
        edge.beyond("the first uses 1 more", Edge.jets(500, 11, 10).best(1), 0);
        // Without 1, the jet of 1 goes on to the last; without 0, the jet of 2 leaves one in the tank on day 50.
        NamedFountains x = Edge.jets(101, 1, 2);
        edge.at("best(1)", x.best(1), 1);
        edge.within("best(2)", x.best(2), 1);
        edge.within("best(99): 2 is left, or 1", x.best(99), 1);
        edge.at("best(100): 1 is left either way", x.best(100), 0);
        for (int n : NOT_DAYS) {
            edge.beyond("best(" + n + ")", Edge::rich, y -> y.best(n), Due.BEYOND);
        }
        NamedFountains off = Edge.jets(500, 10, 40, 11);
        off.set(1, 2, 1);
        edge.within("not one that is OFF", off.best(1), 2);
        NamedFountains eight = Edge.jets(500, 1, 1, 1, 1, 1, 1, 1, 2);
        edge.at("the eighth", eight.best(1), 7);
        edge.at("TANK 0 is a TANK too", Edge.jets(0, 1).best(100), 0);
        NamedFountains boy = Edge.one(Due.BOY, 10, 0, 20, 0);
        edge.is("a boy alone", boy.best(1), 0);
        edge.asks("it only asks", Edge::rich, y -> y.best(100) >= 0 ? 1 : 0, 1);
    }

    private void bestOfNone() {
        edge.names("Promise 17", "NONE: all are OFF.");
        NamedFountains x = Edge.jets(500, 10, 10);
        edge.within("none is", x.best(1), 0);
        x.set(0, 2, 1);
        edge.at("one isn't", x.best(1), 1);
        edge.beyond("all are", () -> Edge.one(Due.BOY, 10, 1, 20, 0), y -> y.best(1), Due.NONE);
        edge.beyond("there are none", NamedFountains::new, y -> y.best(100), Due.NONE);
    }

    private void high() {
        edge.names("Promise 18", "The greatest HIGH (1 to 40) of one with which it isn't turned OFF (STOOPED isn't more) ON n"
            + " DAYS (1 to 100). BEYOND. NONE.");
        edge.at("40 for a day of 41", Edge.jets(41, 10).high(0, 1), 40);
        edge.at("40 for a day of 40", Edge.jets(40, 10).high(0, 1), 40);
        edge.within("39 for a day of 39", Edge.jets(39, 10).high(0, 1), 39);
        edge.within("2 for a day of 2", Edge.jets(2, 10).high(0, 1), 2);
        edge.at("1 for a day of 1", Edge.jets(1, 10).high(0, 1), 1);
        edge.beyond("none for a day of 0", () -> Edge.jets(0, 10), x -> x.high(0, 1), Due.NONE);
        edge.within("99 days of 99", Edge.jets(99, 10).high(0, 99), 1);
        edge.at("100 days of 100", Edge.jets(100, 10).high(0, 100), 1);
        edge.beyond("100 days of 99", () -> Edge.jets(99, 10), x -> x.high(0, 100), Due.NONE);
        edge.at("100 days of 4000", Edge.jets(4000, 10).high(0, 100), 40);
        edge.within("100 days of 3999", Edge.jets(3999, 10).high(0, 100), 39);
        for (int n : NOT_DAYS) {
            edge.beyond("high(0, " + n + ")", Edge::rich, x -> x.high(0, n), Due.BEYOND);
        }
        for (int fountain : NOBODY) {
            edge.beyond("high(" + fountain + ", 1)", Edge::rich, x -> x.high(fountain, 1), Due.BEYOND);
        }
        edge.beyond("a ninth", () -> Edge.many(8), x -> x.high(8, 1), Due.BEYOND);
        edge.asks("it only asks", () -> Edge.jets(100, 10), x -> x.high(0, 100), 1);
    }

    private void highAgainstOthers() {
        NamedFountains x = Edge.jets(20, 10, 10);
        edge.at("the last one has what is left", x.high(1, 1), 10);
        x.set(0, 1, 11);
        edge.within("the last one has 1 less", x.high(1, 1), 9);
        edge.at("what the first one leaves to others doesn't count", x.high(0, 1), 20);
        // In a drought of one day the one that gives way most is turned off: of several the least.
        NamedFountains y = Edge.jets(100, 10, 10);
        y.water(1, 101);
        edge.within("0 must be lower than 1", y.high(0, 1), 9);
        edge.at("1 may be as high as 0", y.high(1, 1), 10);
        edge.beyond("in two days both are turned off", () -> {
            NamedFountains z = Edge.jets(100, 10, 10);
            z.water(1, 101);
            return z;
        }, z -> z.high(0, 2), Due.NONE);
        NamedFountains held = Edge.jets(0, 10);
        held.set(0, 4, 9998);
        edge.within("STOOPED is more from 9998 on", held.high(0, 1), Due.NONE);
        held.set(0, 4, 9999);
        edge.at("STOOPED that is held isn't more", held.high(0, 1), 40);
        NamedFountains off = Edge.jets(0, 10);
        off.set(0, 2, 1);
        edge.at("one that is OFF isn't turned off", off.high(0, 100), 40);
        NamedFountains often = stoopedBefore();
        edge.within("what another stooped before doesn't count", often.high(1, 1), 15);
        edge.within("what it stooped before itself doesn't count", often.high(0, 1), 25);
    }

    /** Two jets of 10 with 25 in the tank, who stooped seven times and three times before. */
    private static NamedFountains stoopedBefore() {
        NamedFountains x = Edge.jets(25, 10, 10);
        x.set(0, 4, 7);
        x.set(1, 4, 3);
        return x;
    }

    /** Two jets of 10 and of a height in a drought of one day, the second LOVED so much. */
    private static NamedFountains rivals(int high, int loved) {
        NamedFountains x = Edge.jets(100, 10, high);
        x.water(1, 101);
        x.set(1, 3, loved);
        return x;
    }

    private void loved() {
        edge.names("Promise 19", "The least LOVED (0 to 99) of one now with which it isn't turned OFF (STOOPED isn't more) ON n"
            + " DAYS (1 to 100). BEYOND. NONE.");
        edge.at("0 is enough", rivals(11, 0).loved(0, 1), 0);
        edge.within("1 is", rivals(10, 0).loved(0, 1), 1);
        edge.within("98 is", rivals(12, 99).loved(0, 1), 98);
        edge.at("99 is", rivals(11, 99).loved(0, 1), 99);
        edge.beyond("99 isn't", () -> rivals(10, 99), x -> x.loved(0, 1), Due.NONE);
        edge.within("as LOVED as the first", rivals(10, 0).loved(1, 1), 20);
        NamedFountains held = Edge.jets(0, 10);
        held.set(0, 4, 9998);
        edge.within("STOOPED is more from 9998 on", held.loved(0, 1), Due.NONE);
        held.set(0, 4, 9999);
        edge.at("STOOPED that is held isn't more", held.loved(0, 1), 0);
        NamedFountains off = Edge.jets(0, 10);
        off.set(0, 2, 1);
        edge.at("one that is OFF isn't turned off", off.loved(0, 100), 0);
        NamedFountains often = stoopedBefore();
        often.water(1, 26);
        edge.within("what another stooped before doesn't count", often.loved(1, 1), 20);
        edge.within("what it stooped before itself doesn't count", often.loved(0, 1), 21);
        for (int n : NOT_DAYS) {
            edge.beyond("loved(0, " + n + ")", Edge::rich, x -> x.loved(0, n), Due.BEYOND);
        }
        for (int fountain : NOBODY) {
            edge.beyond("loved(" + fountain + ", 1)", Edge::rich, x -> x.loved(fountain, 1), Due.BEYOND);
        }
        edge.beyond("a ninth", () -> Edge.many(8), x -> x.loved(8, 1), Due.BEYOND);
        edge.asks("it only asks", () -> rivals(11, 99), x -> x.loved(0, 1), 99);
    }

    /** A bishop of 10, who gains nothing and uses 20 a day, less LOVED by 20. */
    private static NamedFountains bishop(int tank) {
        NamedFountains x = Edge.jets(tank, 10);
        x.turn(0, Due.BISHOP);
        return x;
    }

    private void lovedOfABishop() {
        edge.at("100 days of 20", bishop(2000).loved(0, 100), 0);
        edge.within("100 days of 19", bishop(1999).loved(0, 100), 20);
        edge.at("100 days of 16", bishop(1600).loved(0, 100), 80);
        edge.within("99 days of 16", bishop(1599).loved(0, 99), 80);
        edge.beyond("100 days of less", () -> bishop(1599), x -> x.loved(0, 100), Due.NONE);
        edge.at("a day of 16", bishop(16).loved(0, 1), 80);
        edge.beyond("a day of 15", () -> bishop(15), x -> x.loved(0, 1), Due.NONE);
    }

    private static int kindOf(int tank, int high) {
        return Edge.jets(tank, high).kind(0);
    }

    private void kind() {
        edge.names("Promise 20", "The KIND as one of which one is OFF latest (within 400 DAYS; not at all: latest); of several"
            + " the least. BEYOND.");
        edge.within("a basin with 2 for 399 days is OFF on day 400", kindOf(798, 10), Due.BOY);
        edge.within("a basin with 799 too", kindOf(799, 10), Due.BOY);
        edge.at("a basin with 2 for 400 days isn't", kindOf(800, 10), Due.BASIN);
        edge.within("a jet of 1 with 399 is OFF on day 400", kindOf(399, 1), Due.BOY);
        edge.at("a jet of 1 with 400 isn't: the least of several", kindOf(400, 1), Due.JET);
        edge.beyond("a jet of 1 with 401 isn't", kindOf(401, 1), Due.JET);
        NamedFountains off = Edge.jets(500, 10);
        off.turn(0, Due.WIFE);
        off.set(0, 2, 1);
        edge.at("one that is OFF now is so as any", off.kind(0), Due.JET);
        // With a DROUGHT of 9999 a boy is turned off on day 1, as are all.
        NamedFountains all = Edge.jets(500, 10);
        all.water(1, 9999);
        edge.at("OFF on one day as any", all.kind(0), Due.JET);
        // With another jet LOVED 35 a jet, a wife are OFF on day 1, a mayor and a bishop behind that.
        NamedFountains two = Edge.jets(100, 10, 10);
        two.water(1, 101);
        two.set(1, 3, 35);
        edge.within("a mayor on day 2 and all below", two.kind(0), Due.MAYOR);
        two.set(1, 3, 40);
        edge.at("a mayor as the other: the least is turned off", two.kind(0), Due.BASIN);
        two.set(1, 3, 39);
        edge.within("a mayor behind the other", two.kind(0), Due.MAYOR);
        NamedFountains second = Edge.jets(800, 10, 10);
        second.set(0, 2, 1);
        edge.at("the second, where the first is OFF", second.kind(1), Due.BASIN);
        second.water(0, 799);
        edge.within("the second, with 1 less", second.kind(1), Due.BOY);
        NamedFountains eighth = Edge.jets(800, 40, 40, 40, 40, 40, 40, 40, 10);
        for (int i = 0; i < 7; i++) {
            eighth.set(i, 2, 1);
        }
        edge.at("the eighth", eighth.kind(7), Due.BASIN);
        edge.beyond("a ninth", () -> Edge.many(8), x -> x.kind(8), Due.BEYOND);
        for (int fountain : NOBODY) {
            edge.beyond("of " + fountain, Edge::rich, x -> x.kind(fountain), Due.BEYOND);
        }
        edge.asks("it only asks", () -> Edge.jets(800, 10), x -> x.kind(0), Due.BASIN);
    }

    /**
     * A jet that is OFF. All weeks have the most RAIN but week 6, of which the hundredth day is one: 9009 come by the
     * others in a hundred days, and 10 or 20 on each of nine days by week 6.
     */
    private static NamedFountains wetTown(int plenty) {
        NamedFountains x = Edge.jets(0, 10);
        for (int w = 0; w < 8; w++) {
            x.week(w, 0, w == 6 ? 10 : 99);
        }
        x.water(2, plenty);
        x.set(0, 2, 1);
        return x;
    }

    private void rain() {
        edge.names("Promise 21", "The WEEK to which 10 more RAIN (99 at most) make NOISE most ON n DAYS (1 to 100); of several"
            + " the least. BEYOND.");
        edge.at("it goes on the hundredth day by 20 in week 6", wetTown(9189).rain(100), 6);
        edge.within("not on the day ahead", wetTown(9189).rain(99), 0);
        edge.beyond("not with 1 more wanted", wetTown(9190).rain(100), 0);
        edge.within("by 10 in week 6 already: of several the least", wetTown(9099).rain(100), 0);
        for (int w = 0; w < 8; w++) {
            NamedFountains x = Due.dryTown(0);
            if (w > 0) {
                x.days(7 * w);
            }
            x.fountain(Due.JET);
            edge.within("the week that it is, " + w, x.rain(1), w);
        }
        edge.at("no fountains: all alike", new NamedFountains().rain(100), 0);
        for (int n : NOT_DAYS) {
            edge.beyond("rain(" + n + ")", Edge::rich, x -> x.rain(n), Due.BEYOND);
        }
        edge.asks("it only asks", () -> wetTown(9189), x -> x.rain(100), 6);
    }

    /** A jet in week 1, which has this RAIN, with an empty tank. */
    private static int rainFor(int rain, int high) {
        NamedFountains x = Due.dryTown(0);
        x.days(7);
        x.week(1, 0, rain);
        x.fountain(Due.JET);
        x.set(0, 1, high);
        x.fountain(Due.JET);
        x.set(1, 1, 40);
        x.fountain(Due.JET);
        x.set(2, 1, 40);
        return x.rain(1);
    }

    private void rainAtMost() {
        // The jets of 40 take 80 of the RAIN; with 19 they and the first have 99, which is the most.
        edge.within("89 and 10 are 99", rainFor(89, 19), 1);
        edge.beyond("88 and 10 are less", rainFor(88, 19), 0);
        edge.at("90 and 10 are 99", rainFor(90, 19), 1);
        edge.beyond("90 and 10 aren't 100", rainFor(90, 20), 0);
        edge.at("98 and 10 are 99", rainFor(98, 19), 1);
        edge.beyond("98 and 10 aren't 108", rainFor(98, 28), 0);
        edge.at("99 and 10 are 99", rainFor(99, 19), 0);
        edge.beyond("99 and 10 aren't 109", rainFor(99, 29), 0);
        edge.within("0 and 10 are 10", rainFor(0, 10), 1);
        edge.beyond("0 and 10 aren't 11", rainFor(0, 11), 0);
    }

    private static int enoughFor(int n, int... highs) {
        return Edge.jets(500, highs).enough(n);
    }

    /** Four jets of 40, one of 25 or so: 185 a day and so on. */
    private static NamedFountains thirsty(int last) {
        return Edge.jets(500, 40, 40, 40, 40, last);
    }

    private void enough() {
        edge.names("Promise 22", "The least TANK (0, 10, .. to 9990) now with which none is turned OFF (STOOPED of all isn't"
            + " more) ON n DAYS (1 to 60). BEYOND. NONE.");
        edge.at("0: no fountains", enoughFor(60), 0);
        edge.within("10 for 1", enoughFor(1, 1), 10);
        edge.within("10 for 9", enoughFor(1, 9), 10);
        edge.at("10 for 10", enoughFor(1, 10), 10);
        edge.beyond("20 for 11", enoughFor(1, 11), 20);
        edge.within("59 days of 10", enoughFor(59, 10), 590);
        edge.at("60 days of 10", enoughFor(60, 10), 600);
        edge.within("54 days of 184", thirsty(24).enough(54), 9940);
        edge.at("54 days of 185", thirsty(25).enough(54), 9990);
        edge.beyond("54 days of 186", () -> thirsty(26), x -> x.enough(54), Due.NONE);
        edge.within("53 days of 186", thirsty(26).enough(53), 9860);
        int[] wrong = {0, -1, 61, 100, Integer.MIN_VALUE, Integer.MAX_VALUE};
        for (int n : wrong) {
            edge.beyond("enough(" + n + ")", Edge::rich, x -> x.enough(n), Due.BEYOND);
        }
        edge.asks("it only asks", () -> thirsty(25), x -> x.enough(54), 9990);
    }

    private void enoughOfAll() {
        edge.within("for the first and the last of eight", enoughFor(1, 1, 1, 1, 1, 1, 1, 1, 13), 20);
        edge.beyond("for 1 more of the last of eight", enoughFor(1, 1, 1, 1, 1, 1, 1, 1, 14), 30);
        NamedFountains x = Edge.jets(500, 10);
        x.water(1, 200);
        edge.at("200 is no drought of 200", x.enough(1), 200);
        x.water(1, 201);
        edge.beyond("200 is one of 201", x.enough(1), 210);
        NamedFountains held = Edge.jets(500, 10);
        held.set(0, 4, 9999);
        edge.at("STOOPED that is held isn't more", held.enough(60), 0);
        held.set(0, 4, 9998);
        edge.within("STOOPED is more from 9998 on", held.enough(60), 600);
        // From 100 on a second jet is turned on and wants more than is left: less is enough.
        NamedFountains woken = Edge.jets(500, 10, 40);
        woken.set(1, 2, 1);
        woken.water(2, 100);
        edge.at("the least, though more isn't enough", woken.enough(9), 90);
        // With 100 the second one is turned on; ten days of 50 then.
        edge.beyond("where it isn't enough, the next that is", woken.enough(10), 500);
    }

    private void rule() {
        edge.names("Promise 23", "The DROUGHT (0, 50, .. to 1000) with which STOOPED of all together is least ON n DAYS (1 to"
            + " 100); of several the least. BEYOND.");
        // 100 a day: 80 are left on the hundredth, of which the mayor leaves nothing to the two jets, so that a DROUGHT
        // that turns him off ahead of that day, and not before, is best.
        NamedFountains x = Edge.jets(9980, 40, 10, 10);
        x.turn(0, Due.MAYOR);
        edge.at("rule(100)", x.rule(100), 100);
        edge.within("rule(99)", x.rule(99), 0);
        edge.at("rule(1)", x.rule(1), 0);
        edge.at("no fountains: all alike", new NamedFountains().rule(100), 0);
        for (int n : NOT_DAYS) {
            edge.beyond("rule(" + n + ")", Edge::rich, y -> y.rule(n), Due.BEYOND);
        }
        edge.asks("it only asks", Edge::rich, y -> y.rule(100) >= 0 ? 1 : 0, 1);
    }

    /** Eight mayors of 40, who use 640 on day 1, and have stooped so often. */
    private static int ruleOfEight(int tank, int stooped) {
        NamedFountains x = Edge.jets(tank, 40, 40, 40, 40, 40, 40, 40, 40);
        for (int i = 0; i < 8; i++) {
            x.turn(i, Due.MAYOR);
            x.set(i, 4, stooped);
        }
        return x.rule(2);
    }

    private void ruleSteps() {
        // Of what the first day leaves, some find too little on the second; one turned off on the first day leaves 80
        // to them, and that is so with any DROUGHT above the TANK.
        edge.within("949", ruleOfEight(949, 0), 950);
        edge.beyond("950: the next step", ruleOfEight(950, 0), 1000);
        edge.within("999", ruleOfEight(999, 0), 1000);
        edge.at("1000: no step is above it", ruleOfEight(1000, 0), 0);
        edge.within("949, each has stooped 9997 times", ruleOfEight(949, 9997), 950);
        edge.at("949, each has stooped 9998 times", ruleOfEight(949, 9998), 950);
        edge.beyond("949, STOOPED is held for each: all alike", ruleOfEight(949, 9999), 0);
    }
}
