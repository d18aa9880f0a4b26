/** The part "Terms": how a DAY goes, step by step. */
final class DayEdges {
    private static final String TERMS = "Terms";
    private final Edge edge;

    DayEdges(Edge edge) {
        this.edge = edge;
    }

    void run() {
        rain();
        drought();
        droughtOfSeveral();
        plenty();
        plentyOfSeveral();
        enoughWater();
        want();
        loved();
        lovedByFrost();
        day();
    }

    private static NamedFountains rainy(int tank) {
        NamedFountains x = Due.dryTown(tank);
        x.week(0, 0, 5);
        return x;
    }

    private void rain() {
        edge.names(TERMS, "A DAY goes: (1) TANK is RAIN of the week more (9999 at most).");
        edge.within("9993 and 5", rainy(9993).days(1), 9998);
        edge.at("9994 and 5", rainy(9994).days(1), 9999);
        edge.beyond("9995 and 5", rainy(9995).days(1), 9999);
        edge.beyond("9999 and 5", rainy(9999).days(1), 9999);
        edge.within("0 and 5", rainy(0).days(1), 5);
        NamedFountains x = rainy(9999);
        x.fountain(Due.JET);
        edge.beyond("it is held ahead of what is used", x.days(1), 9989);
        NamedFountains y = Due.dryTown(9000);
        y.week(0, 0, 99);
        edge.within("9000 and seven of 99", y.on(7, 0), 9693);
        y.water(0, 9400);
        edge.beyond("9400 and seven of 99", y.on(7, 0), 9999);
        edge.within("the last day of week 0", Edge.late(6).days(1), 521);
        edge.beyond("the first of week 1", Edge.late(7).days(1), 529);
    }

    /** A jet of 10 with a DROUGHT of 100, behind a day that began with this TANK and this much RAIN. */
    private static NamedFountains drought(int tank, int rain) {
        NamedFountains x = Edge.jets(tank, 10);
        x.water(1, 100);
        x.week(0, 0, rain);
        x.days(1);
        return x;
    }

    private void drought() {
        edge.names(TERMS, "(2) If TANK is below DROUGHT: the one that GIVES WAY most of those that aren't OFF is turned"
            + " OFF, STOOPED 1 more;");
        edge.beyond("101: OFF", drought(101, 0).of(0, 2), 0);
        edge.beyond("101: TANK", drought(101, 0).now(2), 91);
        edge.at("100: OFF", drought(100, 0).of(0, 2), 0);
        edge.at("100: STOOPED", drought(100, 0).of(0, 4), 0);
        edge.at("100: TANK", drought(100, 0).now(2), 90);
        edge.within("99: OFF", drought(99, 0).of(0, 2), 1);
        edge.within("99: STOOPED", drought(99, 0).of(0, 4), 1);
        edge.within("99: it uses nothing that day", drought(99, 0).now(2), 99);
        edge.within("99: it is less LOVED that day", drought(99, 0).of(0, 3), 19);
        edge.at("99 and RAIN of 1 are no drought", drought(99, 1).of(0, 2), 0);
        edge.within("98 and RAIN of 1 are one", drought(98, 1).of(0, 2), 1);
        NamedFountains x = drought(0, 0);
        x.days(1);
        edge.beyond("none is left: STOOPED", x.of(0, 4), 1);
        edge.beyond("none is left: OFF", x.of(0, 2), 1);
        NamedFountains none = Due.dryTown(0);
        none.water(1, 9999);
        edge.beyond("there is none", none.days(1), 0);
    }

    private void droughtOfSeveral() {
        NamedFountains x = Edge.jets(99, 10, 12, 11);
        x.water(1, 100);
        x.set(1, 2, 1);
        edge.within("the greatest is OFF, the next is turned off", x.on(1, 2), 6);
        edge.at("one a day", x.on(1, 0), 89);
        edge.within("another the next day", x.on(2, 2), 7);
        edge.beyond("the one that was OFF didn't stoop", x.then(1, 3, 2), 0);
        edge.within("the others did once", x.then(0, 3, 2) + x.then(2, 3, 2), 2);
        NamedFountains between = Edge.jets(99, 5, 20, 10);
        between.water(1, 100);
        edge.within("the greatest stands between others", between.on(1, 2), 2);
        // 1 is turned off by the committee, and then 0 finds less than its 40: both on one day.
        NamedFountains y = Edge.jets(30, 40, 40);
        y.water(1, 31);
        y.set(1, 3, 10);
        edge.within("by drought and by want on one day", y.on(1, 2), 3);
        edge.within("each stooped once", y.then(0, 1, 2) * 10 + y.then(1, 1, 2), 11);
    }

    /** A jet of 10 that is OFF with a PLENTY of 100, behind a day that began with this TANK and this much RAIN. */
    private static NamedFountains plenty(int tank, int rain) {
        NamedFountains x = Edge.jets(tank, 10);
        x.water(2, 100);
        x.set(0, 2, 1);
        x.week(0, 0, rain);
        x.days(1);
        return x;
    }

    private void plenty() {
        edge.names(TERMS, "else, if TANK is PLENTY or more: the one that GIVES WAY least of those that are OFF (of several"
            + " the least) is turned on.");
        edge.beyond("99: OFF", plenty(99, 0).of(0, 2), 1);
        edge.beyond("99: TANK", plenty(99, 0).now(2), 99);
        edge.beyond("99: LOVED", plenty(99, 0).of(0, 3), 19);
        edge.at("100: OFF", plenty(100, 0).of(0, 2), 0);
        edge.at("100: it uses water that day", plenty(100, 0).now(2), 90);
        edge.at("100: it is more LOVED that day", plenty(100, 0).of(0, 3), 21);
        edge.at("100: STOOPED", plenty(100, 0).of(0, 4), 0);
        edge.within("101: OFF", plenty(101, 0).of(0, 2), 0);
        edge.at("99 and RAIN of 1", plenty(99, 1).of(0, 2), 0);
        edge.beyond("98 and RAIN of 1", plenty(98, 1).of(0, 2), 1);
        NamedFountains x = Edge.jets(50, 10);
        x.set(0, 2, 1);
        x.water(2, 40);
        x.water(1, 51);
        edge.beyond("below DROUGHT, though it is PLENTY", x.on(1, 2), 1);
        x.water(1, 50);
        edge.at("as much as DROUGHT", x.on(1, 2), 0);
        NamedFountains y = Edge.jets(9, 10);
        y.set(0, 2, 1);
        y.water(2, 9);
        edge.beyond("turned on and off again by want: OFF", y.then(0, 1, 0), 1);
        edge.beyond("turned on and off again by want: STOOPED", y.then(0, 1, 2), 1);
        y.water(2, 10);
        edge.beyond("not turned on: STOOPED", y.then(0, 1, 2), 0);
    }

    private void plentyOfSeveral() {
        NamedFountains x = Edge.jets(5000, 10, 10, 10, 9);
        x.water(2, 100);
        for (int i = 1; i < 4; i++) {
            x.set(i, 2, 1);
        }
        edge.within("the one that gives way least", x.on(1, 2), 6);
        edge.at("the least of several", x.on(2, 2), 4);
        edge.within("the last", x.on(3, 2), 0);
        edge.beyond("none is left", x.on(4, 2), 0);
        x.set(1, 3, 22);
        edge.within("one more LOVED", x.on(1, 2), 12);
        NamedFountains y = Edge.jets(5000, 20, 5, 10);
        y.water(2, 100);
        for (int i = 0; i < 3; i++) {
            y.set(i, 2, 1);
        }
        edge.within("the least stands between others", y.on(1, 2), 5);
    }

    private void enoughWater() {
        edge.names(TERMS, "(3) FOUNTAINS by numbers: if TANK is what it USES, or more: it is so much less;");
        edge.within("11 for 10: TANK", Edge.jets(11, 10).on(1, 0), 1);
        edge.within("11 for 10: OFF", Edge.jets(11, 10).on(1, 2), 0);
        edge.at("10 for 10: TANK", Edge.jets(10, 10).on(1, 0), 0);
        edge.at("10 for 10: OFF", Edge.jets(10, 10).on(1, 2), 0);
        edge.beyond("9 for 10: TANK", Edge.jets(9, 10).on(1, 0), 9);
        edge.beyond("9 for 10: OFF", Edge.jets(9, 10).on(1, 2), 1);
        edge.at("20 for 10 and 10", Edge.jets(20, 10, 10).on(1, 2), 0);
        edge.beyond("19 for 10 and 10: the first has it", Edge.jets(19, 10, 10).on(1, 2), 2);
        edge.beyond("19 for 10 and 10: TANK", Edge.jets(19, 10, 10).on(1, 0), 9);
        edge.within("19 for 10, 10 and 9: the last has the rest", Edge.jets(19, 10, 10, 9).on(1, 2), 2);
        edge.within("19 for 10, 10 and 9: TANK", Edge.jets(19, 10, 10, 9).on(1, 0), 0);
        NamedFountains x = Edge.jets(0, 10);
        x.set(0, 2, 1);
        edge.at("nothing for one that is OFF: STOOPED", x.then(0, 1, 2), 0);
        NamedFountains y = Edge.jets(5, 10);
        y.week(0, 1, 1);
        edge.at("5 for 10 in frost", y.on(1, 0), 0);
        y.water(0, 4);
        edge.beyond("4 for 10 in frost", y.on(1, 2), 1);
        NamedFountains z = Edge.jets(0, 1);
        z.week(0, 1, 1);
        edge.at("0 for 1 in frost: it goes", z.on(1, 2), 0);
    }

    /** One of a kind in a dry town behind a day. */
    private static NamedFountains wanting(int tank, int kind, int off) {
        NamedFountains x = Due.dryTown(tank);
        x.fountain(kind);
        x.set(0, 2, off);
        x.days(1);
        return x;
    }

    private void want() {
        edge.names(TERMS, "else the one that would USE it is turned OFF (STOOPED 1 more), but a BOY stays as it is.");
        edge.at("a basin with 2: OFF", wanting(2, Due.BASIN, 0).of(0, 2), 0);
        edge.within("a basin with 1: OFF", wanting(1, Due.BASIN, 0).of(0, 2), 1);
        edge.within("a basin with 1: STOOPED", wanting(1, Due.BASIN, 0).of(0, 4), 1);
        edge.within("a basin with 1: TANK", wanting(1, Due.BASIN, 0).now(2), 1);
        edge.within("a basin with 1: LOVED, as one that is OFF", wanting(1, Due.BASIN, 0).of(0, 3), 20);
        edge.at("a boy with 1: TANK", wanting(1, Due.BOY, 0).now(2), 0);
        edge.beyond("a boy with 0: OFF", wanting(0, Due.BOY, 0).of(0, 2), 0);
        edge.beyond("a boy with 0: STOOPED", wanting(0, Due.BOY, 0).of(0, 4), 0);
        edge.beyond("a boy with 0: LOVED, as one that goes", wanting(0, Due.BOY, 0).of(0, 3), 22);
        edge.at("a boy that is OFF with 1: TANK", wanting(1, Due.BOY, 1).now(2), 0);
        edge.beyond("a boy that is OFF with 0: OFF", wanting(0, Due.BOY, 1).of(0, 2), 1);
        edge.beyond("a boy that is OFF with 0: STOOPED", wanting(0, Due.BOY, 1).of(0, 4), 0);
        int[] uses = {10, 20, 5, 2, 19};
        for (int kind = 0; kind < 5; kind++) {
            edge.at("kind " + kind + " with enough", wanting(uses[kind], kind, 0).count(3), 0);
            edge.within("kind " + kind + " with 1 less", wanting(uses[kind] - 1, kind, 0).count(3), 1);
        }
    }

    /** LOVED behind a day of one of a kind that had so much, with water for all. */
    private static int lovedThen(int kind, int off, int loved) {
        NamedFountains x = Due.dryTown(5000);
        x.fountain(kind);
        x.set(0, 2, off);
        x.set(0, 3, loved);
        x.days(1);
        return x.of(0, 3);
    }

    private void loved() {
        edge.names(TERMS, "(4) LOVED is what each GAINS more (0 to 99 held).");
        edge.within("97 and 1", lovedThen(Due.JET, 0, 97), 98);
        edge.at("98 and 1", lovedThen(Due.JET, 0, 98), 99);
        edge.beyond("99 and 1", lovedThen(Due.JET, 0, 99), 99);
        edge.within("96 and 2", lovedThen(Due.BASIN, 0, 96), 98);
        edge.at("97 and 2", lovedThen(Due.BASIN, 0, 97), 99);
        edge.beyond("98 and 2", lovedThen(Due.BASIN, 0, 98), 99);
        edge.beyond("99 and 2", lovedThen(Due.BOY, 0, 99), 99);
        edge.within("2 less 1", lovedThen(Due.JET, 1, 2), 1);
        edge.at("1 less 1", lovedThen(Due.JET, 1, 1), 0);
        edge.beyond("0 less 1", lovedThen(Due.JET, 1, 0), 0);
        edge.within("3 less 2", lovedThen(Due.BISHOP, 1, 3), 1);
        edge.at("2 less 2", lovedThen(Due.BISHOP, 1, 2), 0);
        edge.beyond("1 less 2", lovedThen(Due.BISHOP, 1, 1), 0);
        edge.beyond("0 less 2", lovedThen(Due.BISHOP, 1, 0), 0);
        NamedFountains x = Edge.many(8);
        x.water(0, 5000);
        edge.within("the first of eight", x.then(0, 1, 1), 21);
        edge.within("the last of eight", x.then(7, 1, 1), 21);
    }

    private void lovedByFrost() {
        NamedFountains x = Due.dryTown(5000);
        x.fountain(Due.BASIN);
        x.week(0, 1, 1);
        edge.within("six days of frost", x.then(0, 6, 1), 26);
        edge.at("the last day of frost", x.then(0, 7, 1), 27);
        edge.beyond("the day behind it", x.then(0, 8, 1), 29);
    }

    private void day() {
        edge.plain(TERMS, "DAY is 1 more.");
        NamedFountains x = Edge.rich();
        int before = x.now(0);
        x.days(1);
        edge.is("one day", x.now(0), before + 1);
        x.days(100);
        edge.is("a hundred more", x.now(0), before + 101);
    }
}
