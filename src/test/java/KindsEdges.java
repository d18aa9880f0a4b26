/** The part "Terms": what a fountain of each KIND USES, is HEARD, GAINS, and GIVES WAY by. */
final class KindsEdges {
    private static final String TERMS = "Terms";
    private static final int USES = 5;
    private static final int HEARD = 6;
    private static final int GAINS = 7;
    private static final int GIVES_WAY = 8;
    private final Edge edge;

    KindsEdges(Edge edge) {
        this.edge = edge;
    }

    void run() {
        uses();
        usesOff();
        usesInFrost();
        heard();
        heardOff();
        gains();
        gainsOfBasinAndUnder();
        givesWay();
        givesWayOfOthers();
    }

    /** What is told of one alone, that is not OFF, LOVED 20 and not in frost. */
    private static int ofHigh(int what, int kind, int high) {
        return Edge.one(kind, high, 0, 20, 0).of(0, what);
    }

    private static int ofLoved(int what, int kind, int high, int loved) {
        return Edge.one(kind, high, 0, loved, 0).of(0, what);
    }

    private void uses() {
        edge.plain(TERMS, "USES (water in a day): JET: HIGH.");
        edge.is("1", ofHigh(USES, Due.JET, 1), 1);
        edge.is("40", ofHigh(USES, Due.JET, 40), 40);
        edge.plain(TERMS, "MAYOR: as JET, twice that.");
        edge.is("1", ofHigh(USES, Due.MAYOR, 1), 2);
        edge.is("40", ofHigh(USES, Due.MAYOR, 40), 80);
        edge.names(TERMS, "WIFE: half of as JET, 1 at least.");
        edge.within("4", ofHigh(USES, Due.WIFE, 4), 2);
        edge.within("3", ofHigh(USES, Due.WIFE, 3), 1);
        edge.at("2", ofHigh(USES, Due.WIFE, 2), 1);
        edge.beyond("1", ofHigh(USES, Due.WIFE, 1), 1);
        edge.within("39", ofHigh(USES, Due.WIFE, 39), 19);
        edge.within("40", ofHigh(USES, Due.WIFE, 40), 20);
        edge.plain(TERMS, "BASIN: 2.");
        edge.is("1", ofHigh(USES, Due.BASIN, 1), 2);
        edge.is("40", ofHigh(USES, Due.BASIN, 40), 2);
        edge.names(TERMS, "BISHOP: as MAYOR, less LOVED by 20 (0 at least).");
        edge.within("HIGH 1, LOVED 39", ofLoved(USES, Due.BISHOP, 1, 39), 1);
        edge.at("HIGH 1, LOVED 40", ofLoved(USES, Due.BISHOP, 1, 40), 0);
        edge.at("HIGH 1, LOVED 59", ofLoved(USES, Due.BISHOP, 1, 59), 0);
        edge.beyond("HIGH 1, LOVED 60", ofLoved(USES, Due.BISHOP, 1, 60), 0);
        edge.beyond("HIGH 1, LOVED 99", ofLoved(USES, Due.BISHOP, 1, 99), 0);
        edge.within("HIGH 2, LOVED 79", ofLoved(USES, Due.BISHOP, 2, 79), 1);
        edge.at("HIGH 2, LOVED 80", ofLoved(USES, Due.BISHOP, 2, 80), 0);
        edge.within("HIGH 40, LOVED 0", ofLoved(USES, Due.BISHOP, 40, 0), 80);
        edge.within("HIGH 40, LOVED 19", ofLoved(USES, Due.BISHOP, 40, 19), 80);
        edge.within("HIGH 40, LOVED 20", ofLoved(USES, Due.BISHOP, 40, 20), 79);
        edge.within("HIGH 40, LOVED 99", ofLoved(USES, Due.BISHOP, 40, 99), 76);
        edge.plain(TERMS, "BOY: as BASIN, less 1.");
        edge.is("1", ofHigh(USES, Due.BOY, 1), 1);
        edge.is("40", ofHigh(USES, Due.BOY, 40), 1);
    }

    private void usesOff() {
        edge.names(TERMS, "(An OFF one: 0, but a BOY.");
        int[] going = {10, 20, 5, 2, 19, 1};
        for (int kind = 0; kind < 6; kind++) {
            edge.within("kind " + kind + " that isn't", Edge.one(kind, 10, 0, 20, 0).of(0, USES), going[kind]);
        }
        for (int kind = 0; kind < 5; kind++) {
            edge.at("kind " + kind, Edge.one(kind, 10, 1, 20, 0).of(0, USES), 0);
        }
        edge.beyond("a boy", Edge.one(Due.BOY, 10, 1, 20, 0).of(0, USES), 1);
    }

    private static int inFrost(int kind, int high, int loved) {
        return Edge.one(kind, high, 0, loved, 1).of(0, USES);
    }

    private void usesInFrost() {
        edge.names(TERMS, "In COLD half of all that, cut.)");
        edge.at("a jet of 1", inFrost(Due.JET, 1, 20), 0);
        edge.within("a jet of 2", inFrost(Due.JET, 2, 20), 1);
        edge.within("a jet of 39", inFrost(Due.JET, 39, 20), 19);
        edge.within("a jet of 40", inFrost(Due.JET, 40, 20), 20);
        edge.within("a mayor of 1", inFrost(Due.MAYOR, 1, 20), 1);
        edge.at("a wife of 1: the 1 at least is halved too", inFrost(Due.WIFE, 1, 20), 0);
        edge.at("a wife of 3", inFrost(Due.WIFE, 3, 20), 0);
        edge.within("a wife of 4", inFrost(Due.WIFE, 4, 20), 1);
        edge.within("a basin", inFrost(Due.BASIN, 10, 20), 1);
        edge.within("a bishop of 10: half of 20 less 1", inFrost(Due.BISHOP, 10, 20), 9);
        edge.within("a bishop of 10: half of 20 less 2", inFrost(Due.BISHOP, 10, 40), 9);
        edge.at("a bishop that uses 1", inFrost(Due.BISHOP, 1, 20), 0);
        edge.at("a boy", inFrost(Due.BOY, 10, 20), 0);
        edge.at("a boy that is OFF", Edge.one(Due.BOY, 10, 1, 20, 1).of(0, USES), 0);
        edge.at("a mayor that is OFF", Edge.one(Due.MAYOR, 10, 1, 20, 1).of(0, USES), 0);
        // COLD of week 1 alone: the last day of week 0, then the first of week 1, the last, and the first of week 2.
        int[] days = {6, 7, 13, 14};
        int[] uses = {10, 5, 5, 10};
        for (int i = 0; i < days.length; i++) {
            NamedFountains x = Edge.late(days[i]);
            x.fountain(Due.JET);
            x.week(1, 1, 1);
            edge.beyond("on DAY " + days[i], x.of(0, USES), uses[i]);
        }
    }

    private void heard() {
        edge.plain(TERMS, "HEARD (how loud): JET: HIGH.");
        edge.is("1", ofHigh(HEARD, Due.JET, 1), 1);
        edge.is("40", ofHigh(HEARD, Due.JET, 40), 40);
        edge.plain(TERMS, "MAYOR: as JET, and 10.");
        edge.is("1", ofHigh(HEARD, Due.MAYOR, 1), 11);
        edge.is("40", ofHigh(HEARD, Due.MAYOR, 40), 50);
        edge.names(TERMS, "WIFE: as JET, half of that, and 5.");
        edge.at("1", ofHigh(HEARD, Due.WIFE, 1), 5);
        edge.beyond("2", ofHigh(HEARD, Due.WIFE, 2), 6);
        edge.within("3", ofHigh(HEARD, Due.WIFE, 3), 6);
        edge.within("39", ofHigh(HEARD, Due.WIFE, 39), 24);
        edge.within("40", ofHigh(HEARD, Due.WIFE, 40), 25);
        edge.plain(TERMS, "BASIN: 1.");
        edge.is("1", ofHigh(HEARD, Due.BASIN, 1), 1);
        edge.is("40", ofHigh(HEARD, Due.BASIN, 40), 1);
        edge.plain(TERMS, "BISHOP: as MAYOR.");
        edge.is("1", ofHigh(HEARD, Due.BISHOP, 1), 11);
        edge.is("40, LOVED 99", ofLoved(HEARD, Due.BISHOP, 40, 99), 50);
        edge.names(TERMS, "BOY: as BASIN, and LOVED by 10.");
        edge.within("LOVED 0", ofLoved(HEARD, Due.BOY, 40, 0), 1);
        edge.within("LOVED 9", ofLoved(HEARD, Due.BOY, 40, 9), 1);
        edge.at("LOVED 10", ofLoved(HEARD, Due.BOY, 40, 10), 2);
        edge.beyond("LOVED 11", ofLoved(HEARD, Due.BOY, 40, 11), 2);
        edge.within("LOVED 89", ofLoved(HEARD, Due.BOY, 40, 89), 9);
        edge.within("LOVED 90", ofLoved(HEARD, Due.BOY, 40, 90), 10);
        edge.within("LOVED 99", ofLoved(HEARD, Due.BOY, 40, 99), 10);
    }

    private void heardOff() {
        edge.names(TERMS, "(An OFF one: 0, but a BOY.)");
        int[] going = {10, 20, 10, 1, 20, 3};
        for (int kind = 0; kind < 6; kind++) {
            edge.within("kind " + kind + " that isn't", Edge.one(kind, 10, 0, 20, 0).of(0, HEARD), going[kind]);
            edge.within("kind " + kind + " in frost", Edge.one(kind, 10, 0, 20, 1).of(0, HEARD), going[kind]);
        }
        for (int kind = 0; kind < 5; kind++) {
            edge.at("kind " + kind, Edge.one(kind, 10, 1, 20, 0).of(0, HEARD), 0);
        }
        edge.beyond("a boy", Edge.one(Due.BOY, 10, 1, 20, 0).of(0, HEARD), 3);
    }

    /** 100 and what one of a height GAINS, if it is OFF or not, not in frost. */
    private static int gainsOf(int kind, int high, int off) {
        return Edge.one(kind, high, off, 20, 0).of(0, GAINS);
    }

    private void gains() {
        edge.names(TERMS, "GAINS (LOVED in a day): JET: 1, if it isn't OFF; -1, if it is.");
        edge.within("it isn't OFF", gainsOf(Due.JET, 10, 0), 101);
        edge.at("it is", gainsOf(Due.JET, 10, 1), 99);
        edge.beyond("however high", gainsOf(Due.JET, 40, 0), 101);
        edge.beyond("however high, OFF", gainsOf(Due.JET, 40, 1), 99);
        edge.names(TERMS, "MAYOR: as JET, but 0, if HIGH is above 30.");
        edge.within("29", gainsOf(Due.MAYOR, 29, 0), 101);
        edge.at("30", gainsOf(Due.MAYOR, 30, 0), 101);
        edge.beyond("31", gainsOf(Due.MAYOR, 31, 0), 100);
        edge.within("29, OFF", gainsOf(Due.MAYOR, 29, 1), 99);
        edge.at("30, OFF", gainsOf(Due.MAYOR, 30, 1), 99);
        edge.beyond("31, OFF", gainsOf(Due.MAYOR, 31, 1), 100);
        edge.plain(TERMS, "WIFE: 1, OFF or not.");
        edge.is("not", gainsOf(Due.WIFE, 40, 0), 101);
        edge.is("OFF", gainsOf(Due.WIFE, 40, 1), 101);
        edge.is("OFF in frost", Edge.one(Due.WIFE, 10, 1, 20, 1).of(0, GAINS), 101);
    }

    private void gainsOfBasinAndUnder() {
        edge.names(TERMS, "BASIN: as JET, and 1, if it isn't COLD.");
        edge.within("it isn't", gainsOf(Due.BASIN, 10, 0), 102);
        edge.at("it is", Edge.one(Due.BASIN, 10, 0, 20, 1).of(0, GAINS), 101);
        edge.within("OFF, it isn't", gainsOf(Due.BASIN, 10, 1), 100);
        edge.beyond("OFF, it is", Edge.one(Due.BASIN, 10, 1, 20, 1).of(0, GAINS), 99);
        edge.within("above 30 feet, unlike a mayor", gainsOf(Due.BASIN, 31, 0), 102);
        edge.within("above 30 feet, OFF", gainsOf(Due.BASIN, 31, 1), 100);
        edge.at("above 30 feet, in frost", Edge.one(Due.BASIN, 31, 0, 20, 1).of(0, GAINS), 101);
        edge.beyond("above 30 feet, OFF, in frost", Edge.one(Due.BASIN, 31, 1, 20, 1).of(0, GAINS), 99);
        edge.names(TERMS, "BISHOP: as MAYOR, less 1.");
        edge.within("29", gainsOf(Due.BISHOP, 29, 0), 100);
        edge.at("30", gainsOf(Due.BISHOP, 30, 0), 100);
        edge.beyond("31", gainsOf(Due.BISHOP, 31, 0), 99);
        edge.at("30, OFF", gainsOf(Due.BISHOP, 30, 1), 98);
        edge.beyond("31, OFF", gainsOf(Due.BISHOP, 31, 1), 99);
        edge.names(TERMS, "BOY: as BASIN, but 0 at least.");
        edge.within("going, not in frost", gainsOf(Due.BOY, 10, 0), 102);
        edge.within("going, in frost", Edge.one(Due.BOY, 10, 0, 20, 1).of(0, GAINS), 101);
        edge.within("going, above 30 feet", gainsOf(Due.BOY, 31, 0), 102);
        edge.within("going, above 30 feet, in frost", Edge.one(Due.BOY, 31, 0, 20, 1).of(0, GAINS), 101);
        edge.at("OFF, not in frost", gainsOf(Due.BOY, 10, 1), 100);
        edge.beyond("OFF, in frost", Edge.one(Due.BOY, 10, 1, 20, 1).of(0, GAINS), 100);
    }

    private void givesWay() {
        edge.names(TERMS, "GIVES WAY (in what order they are turned off, the greatest first; of several the least):"
            + " JET: HIGH, less LOVED.");
        edge.at("HIGH 1, LOVED 99", ofLoved(GIVES_WAY, Due.JET, 1, 99), 902);
        edge.at("HIGH 40, LOVED 0", ofLoved(GIVES_WAY, Due.JET, 40, 0), 1040);
        edge.at("two alike", Edge.jets(0, 10, 10).next(), 0);
        edge.within("the second is greater by 1", Edge.jets(0, 10, 11).next(), 1);
        edge.beyond("the first is greater by 1", Edge.jets(0, 11, 10).next(), 0);
        edge.at("of eight alike", Edge.many(8).next(), 0);
        // In a drought of three days: 2 is the highest; 0 and 1 are alike.
        NamedFountains x = Edge.jets(100, 10, 10, 12);
        x.water(1, 101);
        edge.beyond("first the greatest", x.on(1, 2), 4);
        edge.at("then the least of several", x.on(2, 2), 5);
        edge.within("then the last", x.on(3, 2), 7);
        edge.within("one that is OFF as one that isn't", Edge.one(Due.JET, 10, 1, 20, 1).of(0, GIVES_WAY), 990);
    }

    /** Who of two is turned off next, the first LOVED 20, the second so much, both of 10 feet. */
    private static int nextOf(int first, int second, int loved) {
        NamedFountains x = new NamedFountains();
        x.fountain(first);
        x.fountain(second);
        x.set(1, 3, loved);
        return x.next();
    }

    private void givesWayOfOthers() {
        edge.names(TERMS, "MAYOR: as JET, less 20.");
        edge.is("HIGH 1, LOVED 99", ofLoved(GIVES_WAY, Due.MAYOR, 1, 99), 882);
        edge.is("HIGH 40, LOVED 0", ofLoved(GIVES_WAY, Due.MAYOR, 40, 0), 1020);
        edge.within("a jet LOVED 39 before a mayor LOVED 20", nextOf(Due.MAYOR, Due.JET, 39), 1);
        edge.at("a jet LOVED 40 as a mayor LOVED 20", nextOf(Due.MAYOR, Due.JET, 40), 0);
        edge.beyond("a jet LOVED 41 behind a mayor LOVED 20", nextOf(Due.MAYOR, Due.JET, 41), 0);
        edge.at("a mayor LOVED 0 as a jet LOVED 20", nextOf(Due.JET, Due.MAYOR, 0), 0);
        edge.plain(TERMS, "WIFE: as JET.");
        edge.is("HIGH 1, LOVED 99", ofLoved(GIVES_WAY, Due.WIFE, 1, 99), 902);
        edge.is("HIGH 40, LOVED 0", ofLoved(GIVES_WAY, Due.WIFE, 40, 0), 1040);
        edge.is("as a jet", nextOf(Due.WIFE, Due.JET, 20), 0);
        edge.is("before a jet LOVED 1 more", nextOf(Due.JET, Due.WIFE, 19), 1);
        edge.plain(TERMS, "BASIN: -200, less LOVED.");
        edge.is("HIGH 40, LOVED 0", ofLoved(GIVES_WAY, Due.BASIN, 40, 0), 800);
        edge.is("HIGH 1, LOVED 99", ofLoved(GIVES_WAY, Due.BASIN, 1, 99), 701);
        edge.is("behind a mayor LOVED 99", nextOf(Due.BASIN, Due.MAYOR, 99), 1);
        edge.names(TERMS, "BISHOP: as MAYOR, and 5.");
        edge.is("HIGH 1, LOVED 99", ofLoved(GIVES_WAY, Due.BISHOP, 1, 99), 887);
        edge.is("HIGH 40, LOVED 0", ofLoved(GIVES_WAY, Due.BISHOP, 40, 0), 1025);
        edge.within("before a mayor, LOVED 24", nextOf(Due.MAYOR, Due.BISHOP, 24), 1);
        edge.at("as a mayor, LOVED 25", nextOf(Due.MAYOR, Due.BISHOP, 25), 0);
        edge.beyond("behind a mayor, LOVED 26", nextOf(Due.MAYOR, Due.BISHOP, 26), 0);
        edge.plain(TERMS, "BOY: as BASIN, less 200.");
        edge.is("HIGH 40, LOVED 0", ofLoved(GIVES_WAY, Due.BOY, 40, 0), 600);
        edge.is("HIGH 1, LOVED 99", ofLoved(GIVES_WAY, Due.BOY, 1, 99), 501);
        edge.is("behind a basin LOVED 99", nextOf(Due.BOY, Due.BASIN, 99), 1);
        edge.plain(TERMS, "(Others as the KIND above.)");
        edge.is("a bishop is HEARD as a mayor", ofHigh(HEARD, Due.BISHOP, 10), ofHigh(HEARD, Due.MAYOR, 10));
        edge.is("a wife GIVES WAY as a jet", ofHigh(GIVES_WAY, Due.WIFE, 7), ofHigh(GIVES_WAY, Due.JET, 7));
    }
}
