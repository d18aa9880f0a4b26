/** The part "Terms": findings, quotients, sets, and what the town, its weeks and fountains may be. */
final class TermsEdges {
    private static final String TERMS = "Terms";
    private final Edge edge;

    TermsEdges(Edge edge) {
        this.edge = edge;
    }

    void run() {
        findings();
        orderOfFindings();
        quotients();
        sets();
        day();
        tank();
        drought();
        plenty();
        weeks();
        rain();
        cold();
        fountains();
        high();
        off();
        loved();
        stooped();
        on();
        noise();
        sheets();
    }

    private void findings() {
        edge.names(TERMS, "FINDINGS are answers below -1000000000: -1000000001 BEYOND, -1000000002 FULL, -1000000003 KIND,"
            + " -1000000004 NONE, -1000000005 STATE, -1000000006 MISSING, -1000000007 SIZE (in longs, too).");
        edge.at("BEYOND is the first", Edge::rich, x -> x.now(10), -1000000001);
        edge.within("FULL", Edge.many(8).fountain(0), -1000000002);
        edge.within("KIND", Edge.many(1).as(0, 1), -1000000003);
        edge.within("NONE", new NamedFountains().undo(), -1000000004);
        edge.within("STATE", Edge.late(99999).days(1), -1000000005);
        edge.within("MISSING", new NamedFountains().lays(0), -1000000006);
        edge.at("SIZE is the last", new NamedFountains().sheet(0, 8, -1), -1000000007);
        edge.within("BEYOND in longs", new NamedFountains().write(4, 0, 0), -1000000001L);
        edge.within("MISSING in longs", new NamedFountains().write(3, 0, 0), -1000000006L);
        NamedFountains x = new NamedFountains();
        x.sheet(0, 64, 1);
        x.write(0, 0, -1000000000L);
        edge.beyond("a number of a sheet above them", x.write(0, 0, -1000000008L), -1000000000L);
        edge.beyond("a number of a sheet below them", x.write(0, 0, -1000000001L), -1000000008L);
        edge.beyond("a number of a sheet as one of them", x.write(0, 0, 0), -1000000001L);
        edge.is("numbers of sheets are no findings", x.status(-1), 0);
    }

    private void orderOfFindings() {
        edge.names(TERMS, "Each act tells its findings in the order in which they are asked; one that answers a finding"
            + " changes nothing but status().");
        edge.within("an act without a finding", Edge.rich().copy(0, 0, 0, 0, 3), 3);
        edge.at("fountain: FULL", () -> Edge.many(8), x -> x.fountain(5), Due.FULL);
        edge.beyond("fountain: BEYOND, though it is FULL", () -> Edge.many(8), x -> x.fountain(6), Due.BEYOND);
        edge.at("as: KIND", Edge::rich, x -> x.as(0, 5), Due.KIND);
        edge.beyond("as: BEYOND, kind", Edge::rich, x -> x.as(0, 6), Due.BEYOND);
        edge.at("days: STATE", () -> Edge.late(99901), x -> x.days(99), Due.STATE);
        edge.beyond("days: BEYOND, though STATE", () -> Edge.late(99901), x -> x.days(101), Due.BEYOND);
        edge.at("falls: NONE", () -> Due.dryTown(1), x -> x.falls(0), Due.NONE);
        edge.beyond("falls: BEYOND, though NONE", () -> Due.dryTown(1), x -> x.falls(-1), Due.BEYOND);
        edge.at("off: NONE", () -> Edge.jets(400, 1), x -> x.off(0), Due.NONE);
        edge.beyond("off: BEYOND", () -> Edge.jets(400, 1), x -> x.off(1), Due.BEYOND);
        edge.at("best: NONE", NamedFountains::new, x -> x.best(1), Due.NONE);
        edge.beyond("best: BEYOND, though NONE", NamedFountains::new, x -> x.best(0), Due.BEYOND);
        edge.at("high: NONE", () -> Edge.jets(0, 1), x -> x.high(0, 1), Due.NONE);
        edge.beyond("high: BEYOND, though NONE", () -> Edge.jets(0, 1), x -> x.high(0, 101), Due.BEYOND);
        edge.at("loved: NONE", () -> Edge.jets(0, 1), x -> x.loved(0, 1), Due.NONE);
        edge.beyond("loved: BEYOND, though NONE", () -> Edge.jets(0, 1), x -> x.loved(0, 101), Due.BEYOND);
        edge.at("enough: NONE", TermsEdges::insatiable, x -> x.enough(60), Due.NONE);
        edge.beyond("enough: BEYOND, though NONE", TermsEdges::insatiable, x -> x.enough(61), Due.BEYOND);
        edge.at("feed: FULL", () -> Edge.taped(120), x -> x.feed(0, 4), Due.FULL);
        edge.beyond("feed: BEYOND, though FULL", () -> Edge.taped(120), x -> x.feed(0, 5), Due.BEYOND);
        orderForSheets();
    }

    private void orderForSheets() {
        edge.at("sheet: SIZE", Edge::rich, x -> x.sheet(0, 8, -1), Due.SIZE);
        edge.beyond("sheet: BEYOND, no such sheet, though SIZE", Edge::rich, x -> x.sheet(4, 8, -1), Due.BEYOND);
        edge.beyond("sheet: BEYOND, other bits, though SIZE", Edge::rich, x -> x.sheet(0, 9, -1), Due.BEYOND);
        edge.at("write: BEYOND, no such number", Edge::rich, x -> x.write(2, 1, 5), Due.BEYOND);
        edge.beyond("write: MISSING, though no such number", Edge::rich, x -> x.write(3, -1, 5), Due.MISSING);
        edge.at("copy: BEYOND, not so many", Edge::rich, x -> x.copy(1, 0, 1, 0, 3), Due.BEYOND);
        edge.at("copy: KIND, though not so many", Edge::rich, x -> x.copy(0, 0, 1, 0, 4), Due.KIND);
        edge.beyond("copy: MISSING, though below 0", Edge::rich, x -> x.copy(3, -1, 1, 0, 1), Due.MISSING);
        edge.beyond("copy: MISSING, the other", Edge::rich, x -> x.copy(1, -1, 3, 0, 1), Due.MISSING);
        edge.beyond("copy: BEYOND, though MISSING", Edge::rich, x -> x.copy(3, 0, 4, 0, 1), Due.BEYOND);
        edge.beyond("copy: BEYOND, the other, though MISSING", Edge::rich, x -> x.copy(4, 0, 3, 0, 1), Due.BEYOND);
        edge.at("read: BEYOND, fountain", Edge::rich, x -> x.read(0, 4), Due.BEYOND);
        edge.beyond("read: MISSING, though fountain", Edge::rich, x -> x.read(3, 4), Due.MISSING);
        edge.beyond("read: BEYOND, no such sheet", Edge::rich, x -> x.read(4, 4), Due.BEYOND);
    }

    /** Eight mayors of forty feet, for whom no tank is enough. */
    private static NamedFountains insatiable() {
        NamedFountains x = Edge.jets(500, 40, 40, 40, 40, 40, 40, 40, 40);
        for (int i = 0; i < 8; i++) {
            x.turn(i, Due.MAYOR);
        }
        return x;
    }

    private void quotients() {
        edge.names(TERMS, "Quotients are cut.");
        edge.within("half of 4", Edge.one(Due.JET, 4, 0, 20, 1).of(0, 5), 2);
        edge.at("half of 5", Edge.one(Due.JET, 5, 0, 20, 1).of(0, 5), 2);
        edge.beyond("half of 6", Edge.one(Due.JET, 6, 0, 20, 1).of(0, 5), 3);
        edge.within("38 by 20", Edge.one(Due.BISHOP, 10, 0, 38, 0).of(0, 5), 19);
        edge.at("39 by 20", Edge.one(Due.BISHOP, 10, 0, 39, 0).of(0, 5), 19);
        edge.beyond("40 by 20", Edge.one(Due.BISHOP, 10, 0, 40, 0).of(0, 5), 18);
        edge.within("28 by 10", Edge.one(Due.BOY, 10, 0, 28, 0).of(0, 6), 3);
        edge.at("29 by 10", Edge.one(Due.BOY, 10, 0, 29, 0).of(0, 6), 3);
        edge.beyond("30 by 10", Edge.one(Due.BOY, 10, 0, 30, 0).of(0, 6), 4);
        edge.within("DAY 12 by 7", Edge.late(12).now(1), 1);
        edge.at("DAY 13 by 7", Edge.late(13).now(1), 1);
        edge.beyond("DAY 14 by 7", Edge.late(14).now(1), 2);
    }

    private void sets() {
        edge.names(TERMS, "Sets are told by bits.");
        NamedFountains x = Edge.many(8);
        edge.at("the empty set", x.now(7), 0);
        x.set(0, 2, 1);
        edge.within("the first alone", x.now(7), 1);
        x.set(7, 2, 1);
        edge.within("the first and the last", x.now(7), 129);
        edge.within("the same by on", x.on(0, 2), 129);
        x.set(0, 2, 0);
        edge.at("the last alone", x.now(7), 128);
        for (int i = 0; i < 8; i++) {
            x.set(i, 2, 1);
        }
        edge.beyond("all eight", x.now(7), 255);
        edge.beyond("all eight by on", x.on(0, 2), 255);
    }

    private void day() {
        edge.names(TERMS, "DAY: 0 at first (99999 at most).");
        edge.at("at first", new NamedFountains().now(0), 0);
        NamedFountains x = Edge.late(99998);
        edge.within("the last but one", x.now(0), 99998);
        x.days(1);
        edge.at("the last", x.now(0), 99999);
        edge.beyond("one more", () -> Edge.late(99999), y -> y.days(1), Due.STATE);
    }

    /** What 0 TANK, 1 DROUGHT, 2 PLENTY after it was to become v. */
    private static int became(int what, int v) {
        NamedFountains x = new NamedFountains();
        x.water(what, v);
        return x.now(2 + what);
    }

    private void zeroTo9999(int what) {
        edge.at("0", became(what, 0), 0);
        edge.within("1", became(what, 1), 1);
        edge.beyond("-1", Edge::rich, x -> x.water(what, -1), Due.BEYOND);
        edge.within("9998", became(what, 9998), 9998);
        edge.at("9999", became(what, 9999), 9999);
        edge.beyond("10000", Edge::rich, x -> x.water(what, 10000), Due.BEYOND);
    }

    private void tank() {
        edge.names(TERMS, "TANK (0 to 9999; 500 at first),");
        edge.is("at first", new NamedFountains().now(2), 500);
        zeroTo9999(0);
    }

    /** Whether a boy, who is never turned off by want, is OFF behind a day with this TANK and this DROUGHT. */
    private static int offInDrought(int tank, int drought) {
        NamedFountains x = Due.dryTown(tank);
        x.water(1, drought);
        x.fountain(Due.BOY);
        x.days(1);
        return x.of(0, 2);
    }

    private void drought() {
        edge.names(TERMS, "DROUGHT (0 to 9999; 200 at first: below that it is one),");
        edge.is("at first", new NamedFountains().now(3), 200);
        zeroTo9999(1);
        edge.beyond("201 with 200", offInDrought(201, 200), 0);
        edge.at("200 with 200", offInDrought(200, 200), 0);
        edge.within("199 with 200", offInDrought(199, 200), 1);
        edge.at("0 with 0", offInDrought(0, 0), 0);
        edge.within("0 with 1", offInDrought(0, 1), 1);
        edge.at("9999 with 9999", offInDrought(9999, 9999), 0);
        edge.within("9998 with 9999", offInDrought(9998, 9999), 1);
    }

    /** Whether a boy that is OFF is so still behind a day with this TANK and this PLENTY. */
    private static int offInPlenty(int tank, int plenty) {
        NamedFountains x = Due.dryTown(tank);
        x.water(2, plenty);
        x.fountain(Due.BOY);
        x.set(0, 2, 1);
        x.days(1);
        return x.of(0, 2);
    }

    private void plenty() {
        edge.names(TERMS, "PLENTY (0 to 9999; 600 at first).");
        edge.is("at first", new NamedFountains().now(4), 600);
        zeroTo9999(2);
        edge.at("0 with 0", offInPlenty(0, 0), 0);
        edge.beyond("0 with 1", offInPlenty(0, 1), 1);
        edge.at("9999 with 9999", offInPlenty(9999, 9999), 0);
        edge.beyond("9998 with 9999", offInPlenty(9998, 9999), 1);
    }

    private void weeks() {
        edge.names(TERMS, "WEEKS: 8 of a year, that of a DAY being the rest of (DAY by 7) by 8;");
        edge.at("DAY 0", Edge.late(0).now(1), 0);
        edge.within("DAY 6", Edge.late(6).now(1), 0);
        edge.beyond("DAY 7", Edge.late(7).now(1), 1);
        edge.within("DAY 48", Edge.late(48).now(1), 6);
        edge.within("DAY 49", Edge.late(49).now(1), 7);
        edge.at("DAY 55, the last of the year", Edge.late(55).now(1), 7);
        edge.beyond("DAY 56, the first of another", Edge.late(56).now(1), 0);
        edge.within("DAY 62", Edge.late(62).now(1), 0);
        edge.within("DAY 63", Edge.late(63).now(1), 1);
        edge.at("DAY 111", Edge.late(111).now(1), 7);
        edge.beyond("DAY 112", Edge.late(112).now(1), 0);
        // 14285 weeks and 4 days; 14285 is 1785 years and 5 weeks.
        edge.at("DAY 99999", Edge.late(99999).now(1), 5);
        edge.within("week 7", new NamedFountains().week(7, 0, 0), 12);
        edge.beyond("week 8", Edge::rich, x -> x.week(8, 0, 0), Due.BEYOND);
        edge.beyond("week -1", Edge::rich, x -> x.week(-1, 0, 0), Due.BEYOND);
    }

    private static int rainBecame(int v) {
        NamedFountains x = new NamedFountains();
        x.week(0, 0, v);
        return x.now(5);
    }

    private void rain() {
        edge.names(TERMS, "each with RAIN (0 to 99 a day; of week i at first the rest of 5 times i by 13, and 3)");
        edge.at("0", rainBecame(0), 0);
        edge.within("1", rainBecame(1), 1);
        edge.beyond("-1", Edge::rich, x -> x.week(0, 0, -1), Due.BEYOND);
        edge.within("98", rainBecame(98), 98);
        edge.at("99", rainBecame(99), 99);
        edge.beyond("100", Edge::rich, x -> x.week(0, 0, 100), Due.BEYOND);
        // 5 times 2 is 10, below 13; 5 times 3 is 15, above it.
        edge.within("of week 2", new NamedFountains().week(2, 0, 0), 13);
        edge.beyond("of week 3", new NamedFountains().week(3, 0, 0), 5);
        int[] first = {3, 8, 13, 5, 10, 15, 7, 12};
        for (int w = 0; w < 8; w++) {
            edge.is("at first of week " + w, new NamedFountains().week(w, 0, 0), first[w]);
        }
        NamedFountains x = Due.dryTown(0);
        x.week(0, 0, 99);
        edge.within("six days of 99", x.on(6, 0), 594);
        edge.at("seven days of 99", x.on(7, 0), 693);
        edge.beyond("the eighth is of another week", x.on(8, 0), 693);
        edge.beyond("it comes again in the year that follows", x.on(57, 0), 792);
    }

    private static int coldBecame(int v) {
        NamedFountains x = new NamedFountains();
        x.week(0, 1, v);
        return x.now(6);
    }

    private void cold() {
        edge.names(TERMS, "and COLD (1: frost; 0 at first).");
        for (int w = 0; w < 8; w++) {
            edge.is("at first of week " + w, new NamedFountains().week(w, 1, 1), 0);
        }
        edge.within("0", coldBecame(0), 0);
        edge.at("1", coldBecame(1), 1);
        edge.beyond("-1", Edge::rich, x -> x.week(0, 1, -1), Due.BEYOND);
        edge.beyond("2", Edge::rich, x -> x.week(0, 1, 2), Due.BEYOND);
        edge.at("frost halves a jet of 10", Edge.one(Due.JET, 10, 0, 20, 1).of(0, 5), 5);
        edge.within("without it", Edge.one(Due.JET, 10, 0, 20, 0).of(0, 5), 10);
    }

    private void fountains() {
        edge.names(TERMS, "FOUNTAINS 0, 1, .. (at most 8) are of KINDS: 0 JET, 1 MAYOR under JET, 2 WIFE under JET,"
            + " 3 BASIN under JET, 4 BISHOP under MAYOR, 5 BOY under BASIN;");
        edge.at("the first", Edge.many(0).fountain(0), 0);
        edge.within("the seventh", Edge.many(6).fountain(0), 6);
        edge.at("the eighth", Edge.many(7).fountain(0), 7);
        edge.beyond("a ninth", () -> Edge.many(8), x -> x.fountain(0), Due.FULL);
        edge.at("kind 0", Edge.one(0, 10, 0, 20, 0).of(0, 0), 0);
        edge.within("kind 1", Edge.one(1, 10, 0, 20, 0).of(0, 0), 1);
        edge.within("kind 4", Edge.one(4, 10, 0, 20, 0).of(0, 0), 4);
        edge.at("kind 5", Edge.one(5, 10, 0, 20, 0).of(0, 0), 5);
        edge.beyond("kind -1", Edge::rich, x -> x.fountain(-1), Due.BEYOND);
        edge.beyond("kind 6", Edge::rich, x -> x.fountain(6), Due.BEYOND);
        // Of each kind: the kinds that it is of, as a set.
        int[] under = {1, 3, 5, 9, 19, 41};
        for (int kind = 0; kind < 6; kind++) {
            int is = 0;
            for (int above = 0; above < 6; above++) {
                is |= Edge.one(kind, 10, 0, 20, 0).as(0, above) == 20 ? 1 << above : 0;
            }
            edge.is("what kind " + kind + " is of", is, under[kind]);
        }
    }

    /** What 1 HIGH, 2 OFF, 3 LOVED, 4 STOOPED of one after it was to become v. */
    private static int oneBecame(int what, int v) {
        NamedFountains x = Edge.many(1);
        x.set(0, what, v);
        return x.of(0, what);
    }

    private void oneFromTo(int what, int first, int least, int most) {
        edge.is("at first", Edge.many(1).of(0, what), first);
        edge.at("" + least, oneBecame(what, least), least);
        edge.within("" + (least + 1), oneBecame(what, least + 1), least + 1);
        edge.beyond("" + (least - 1), Edge::rich, x -> x.set(0, what, least - 1), Due.BEYOND);
        edge.within("" + (most - 1), oneBecame(what, most - 1), most - 1);
        edge.at("" + most, oneBecame(what, most), most);
        edge.beyond("" + (most + 1), Edge::rich, x -> x.set(0, what, most + 1), Due.BEYOND);
    }

    private void high() {
        edge.names(TERMS, "each HIGH (1 to 40 feet; 10 at first),");
        oneFromTo(1, 10, 1, 40);
    }

    private void off() {
        edge.names(TERMS, "OFF (1: turned off; 0 at first),");
        oneFromTo(2, 0, 0, 1);
        edge.at("one that is OFF uses nothing", Edge.one(Due.JET, 10, 1, 20, 0).of(0, 5), 0);
        edge.within("one that isn't does", Edge.one(Due.JET, 10, 0, 20, 0).of(0, 5), 10);
    }

    private void loved() {
        edge.names(TERMS, "LOVED (0 to 99; 20 at first),");
        oneFromTo(3, 20, 0, 99);
    }

    /** STOOPED of a jet that had stooped so often before, behind a day of drought, or of want. */
    private static int stoopedOnceMore(int before, int drought) {
        NamedFountains x = Edge.jets(5, 10);
        x.water(1, drought);
        x.set(0, 4, before);
        x.days(1);
        return x.of(0, 2) == 1 ? x.of(0, 4) : -1;
    }

    private void stooped() {
        edge.names(TERMS, "STOOPED (how often it was turned off; 0 at first, held to 9999).");
        oneFromTo(4, 0, 0, 9999);
        edge.at("turned off once by drought", stoopedOnceMore(0, 6), 1);
        edge.at("turned off once by want", stoopedOnceMore(0, 0), 1);
        edge.within("9997 and one by drought", stoopedOnceMore(9997, 6), 9998);
        edge.at("9998 and one by drought", stoopedOnceMore(9998, 6), 9999);
        edge.beyond("9999 and one by drought", stoopedOnceMore(9999, 6), 9999);
        edge.within("9997 and one by want", stoopedOnceMore(9997, 0), 9998);
        edge.at("9998 and one by want", stoopedOnceMore(9998, 0), 9999);
        edge.beyond("9999 and one by want", stoopedOnceMore(9999, 0), 9999);
        NamedFountains x = Edge.jets(5, 10);
        for (int i = 0; i < 4; i++) {
            x.set(0, 2, 0);
            x.days(1);
        }
        edge.is("turned off four times", x.of(0, 4), 4);
        x.days(1);
        edge.is("one that is OFF isn't turned off", x.of(0, 4), 4);
    }

    private void on() {
        edge.names(TERMS, "ON: n DAYS go on with all as it is; nothing changes.");
        edge.asks("at: no day", Edge::rich, x -> x.on(0, 0), Edge.rich().now(2));
        edge.at("no day", Edge.jets(25, 10).on(0, 0), 25);
        edge.within("one day", Edge.jets(25, 10).on(1, 0), 15);
        edge.beyond("three days, of which the third is of want", Edge.jets(25, 10).on(3, 0), 5);
        edge.asks("400 days", Edge::rich, x -> x.on(400, 2) >= 0 ? 1 : 0, 1);
        // From DAY 9 on: five days of week 1, whose RAIN is 8, then week 2 with 13.
        edge.within("five days from DAY 9", Edge.late(9).on(5, 0), Edge.late(9).now(2) + 40);
        edge.beyond("six days from DAY 9", Edge.late(9).on(6, 0), Edge.late(9).now(2) + 53);
        for (int n = 1; n <= 100; n++) {
            NamedFountains x = Edge.rich();
            int then = x.on(n, 0);
            edge.is("as days(" + n + ")", then, x.days(n));
        }
    }

    private void noise() {
        edge.names(TERMS, "NOISE: what is HEARD of all, together.");
        edge.at("of none", new NamedFountains().now(8), 0);
        edge.within("of one", Edge.many(1).now(8), 10);
        edge.within("of eight", Edge.many(8).now(8), 80);
        edge.beyond("of eight, of which one is OFF", eightButOne().now(8), 70);
        edge.beyond("the same by on", eightButOne().on(0, 1), 70);
    }

    private static NamedFountains eightButOne() {
        NamedFountains x = Edge.many(8);
        x.set(7, 2, 1);
        return x;
    }

    private void sheets() {
        edge.names(TERMS, "SHEETS 0 to 3 are rows of at most 40 numbers of 8, 16 or 64 bits, or MISSING (at first).");
        for (int s = 0; s < 4; s++) {
            int sheet = s;
            edge.at("sheet " + s + " at first", NamedFountains::new, x -> x.lays(sheet), Due.MISSING);
            edge.within("sheet " + s, new NamedFountains().sheet(s, 8, 1), 1);
        }
        edge.beyond("sheet -1", Edge::rich, x -> x.sheet(-1, 8, 1), Due.BEYOND);
        edge.beyond("sheet 4", Edge::rich, x -> x.sheet(4, 8, 1), Due.BEYOND);
        int[] may = {8, 16, 64};
        for (int bits : may) {
            edge.at("no numbers of " + bits + " bits", new NamedFountains().sheet(0, bits, 0), 0);
            edge.within("39 numbers of " + bits + " bits", new NamedFountains().sheet(0, bits, 39), 39);
            edge.at("40 numbers of " + bits + " bits", new NamedFountains().sheet(0, bits, 40), 40);
            edge.beyond("41 numbers of " + bits + " bits", Edge::rich, x -> x.sheet(0, bits, 41), Due.BEYOND);
        }
        int[] mayNot = {-64, -16, -8, -1, 1, 7, 9, 15, 17, 32, 63, 65, 128};
        for (int bits : mayNot) {
            edge.beyond(bits + " bits", Edge::rich, x -> x.sheet(0, bits, 1), Due.BEYOND);
        }
    }
}
