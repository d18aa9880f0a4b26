/** Promises 24 to 26: feed, wipe, town, and the text of a town. */
public final class TextTest {
    private static final Due DUE = new Due("TextTest");

    public static void main(String[] args) {
        feed();
        feedIsFull();
        wipe();
        kinds();
        fountainItems();
        otherItems();
        tokens();
        faults();
        endsTooEarly();
        aNinth();
        faultChangesNothing();
        DUE.end();
    }

    private static void text(String text, int want) {
        NamedFountains x = new NamedFountains();
        DUE.is("town of \"" + text + "\"", Due.town(x, text), want);
        DUE.is("the tape is empty then", x.count(1), 0);
        DUE.is("no finding", x.status(-1), 0);
    }

    private static void feed() {
        NamedFountains x = new NamedFountains();
        DUE.is("feed jet", x.feed(0x6A6574, 3), 3);
        DUE.is("feed the lowest byte", x.feed(0x7A7A7A20, 1), 4);
        DUE.is("feed high", x.feed(0x68696768, 4), 8);
        DUE.is("feed two", x.feed(0x7A7A2039, 2), 10);
        DUE.is("count(1)", x.count(1), 10);
        DUE.is("town()", x.town(), 1);
        DUE.is("HIGH", x.of(0, 1), 9);
        int[] wrong = {0, 5, -1, Integer.MIN_VALUE, Integer.MAX_VALUE};
        for (int n : wrong) {
            DUE.is("feed(0, " + n + ")", x.feed(0, n), Due.BEYOND);
        }
        DUE.is("BEYOND told", x.status(0), wrong.length);
        DUE.is("the tape is empty still", x.count(1), 0);
        DUE.is("a negative number", x.feed(-1, 4), 4);
        DUE.is("bytes of 255 begin no token", x.town(), -1);
    }

    private static void feedIsFull() {
        NamedFountains x = new NamedFountains();
        for (int i = 1; i <= 29; i++) {
            DUE.is("feed", x.feed(0x20202020, 4), 4 * i);
        }
        DUE.is("118 bytes", x.feed(0x2020, 2), 118);
        DUE.is("121 would be too many", x.feed(0x202020, 3), Due.FULL);
        DUE.is("none came", x.count(1), 118);
        DUE.is("120 are not", x.feed(0x2020, 2), 120);
        DUE.is("121 are", x.feed(0x20, 1), Due.FULL);
        DUE.is("BEYOND is asked first", x.feed(0x20, 5), Due.BEYOND);
        DUE.is("FULL told", x.status(1), 2);
        DUE.is("a tape of blanks ends too early", x.town(), -121);
    }

    private static void wipe() {
        NamedFountains x = new NamedFountains();
        DUE.is("wipe() of none", x.wipe(), 0);
        x.feed(0x6A6574, 3);
        DUE.is("wipe()", x.wipe(), 3);
        DUE.is("count(1)", x.count(1), 0);
        DUE.is("wipe() again", x.wipe(), 0);
        DUE.is("what was wiped is gone", Due.town(x, "boy"), 1);
        DUE.is("KIND", x.of(0, 0), Due.BOY);
    }

    private static void kinds() {
        NamedFountains x = new NamedFountains();
        DUE.is("six items", Due.town(x, "jet;mayor;wife;basin;bishop;boy"), 6);
        for (int i = 0; i < 6; i++) {
            int[] first = {i, 10, 0, 20, 0};
            for (int what = 0; what < 5; what++) {
                DUE.is("of(" + i + ", " + what + ")", x.of(i, what), first[what]);
            }
        }
        DUE.is("two more", Due.town(x, "jet ; boy"), 2);
        DUE.is("they come behind", x.of(7, 0), Due.BOY);
    }

    private static void fountainItems() {
        fountainItem("jet high 1 loved 0 off", 1, 1, 0);
        fountainItem("jet high 40 loved 99", 40, 0, 99);
        fountainItem("jet high 12", 12, 0, 20);
        fountainItem("jet loved 12", 10, 0, 12);
        fountainItem("jet off", 10, 1, 20);
        fountainItem("jet high 3 off", 3, 1, 20);
        fountainItem("jet loved 3 off", 10, 1, 3);
        fountainItem("jet high7loved8off", 7, 1, 8);
    }

    private static void fountainItem(String text, int high, int off, int loved) {
        NamedFountains x = new NamedFountains();
        DUE.is(text, Due.town(x, text), 1);
        DUE.is(text + ": HIGH", x.of(0, 1), high);
        DUE.is(text + ": OFF", x.of(0, 2), off);
        DUE.is(text + ": LOVED", x.of(0, 3), loved);
        DUE.is(text + ": STOOPED", x.of(0, 4), 0);
    }

    private static void otherItems() {
        NamedFountains x = new NamedFountains();
        DUE.is("items", Due.town(x, "rain 0 99;rain 7 0;cold 0;cold 7;tank 9999;cold 3;mild 3"), 7);
        DUE.is("RAIN of 0", x.week(0, 0, 0), 99);
        DUE.is("RAIN of 7", x.week(7, 0, 0), 0);
        DUE.is("COLD of 0", x.week(0, 1, 0), 1);
        DUE.is("COLD of 7", x.week(7, 1, 0), 1);
        DUE.is("COLD of 3", x.week(3, 1, 0), 0);
        DUE.is("TANK", x.now(2), 9999);
        DUE.is("the later one holds", Due.town(x, "tank 5;tank 0;rain 2 4;rain 2 6"), 4);
        DUE.is("TANK", x.now(2), 0);
        DUE.is("RAIN of 2", x.week(2, 0, 0), 6);
    }

    private static void tokens() {
        text("  jet  ", 1);
        text("jet;jet", 2);
        text("  jet  ;  jet  ", 2);
        text("rain 0 0012", 1);
        text("tank 0000000000000000000000000000000009999", 1);
        text("tank 00000000000000000000000000000000010000", -6);
        text("tank 99999999999999999999999999999999999999", -6);
        text("tank 4294967296", -6);
        text("rain0 5", 1);
        text("rain 05", -8);
        text("jethigh 5", -1);
        text("jet\thigh 5", -4);
        text("jet\nhigh 5", -4);
        text("Jet", -1);
        text("jEt", -1);
        text("jet high 5Off", -11);
        text("{", -1);
        text("`", -1);
        text("/", -1);
        text(":", -1);
        text("jet" + (char) 0, -4);
        text("jet" + (char) 160, -4);
        text("jet" + (char) 234, -4);
    }

    private static void faults() {
        text("jets", -1);
        text("jetz", -1);
        text("ajet", -1);
        text("bet", -1);
        text("jot", -1);
        text("jeb", -1);
        text("toy", -1);
        text("je", -1);
        text("5", -1);
        text(";", -1);
        text("high 5", -1);
        text("off", -1);
        text("loved 3", -1);
        text("jet;;jet", -5);
        text("jet jet", -5);
        text("jet 5", -5);
        text("jet high 0", -10);
        text("jet high 41", -10);
        text("jet high x", -10);
        text("jet high;", -9);
        text("jet high 5 high 6", -12);
        text("jet loved 100", -11);
        text("jet loved 5 high 6", -13);
        text("jet loved 5 loved 6", -13);
        text("jet off high 6", -9);
        text("jet off off", -9);
        text("jet off loved 6", -9);
        text("rain 8 5", -6);
        text("rain 7 100", -8);
        text("rain seven", -6);
        text("rain 7;5", -7);
        text("rain 7 5 5", -10);
        text("cold 8", -6);
        text("mild 8", -6);
        text("cold x", -6);
        text("cold 7 1", -8);
        text("tank 10000", -6);
        text("tank -5", -6);
        text("tank 5 off", -8);
        text("tank 5;tank 6;dog", -15);
        text("jet!", -4);
        text("jet high 5!", -11);
        text("dog !", -1);
        text("jet;mayor;wife,", -15);
    }

    private static void endsTooEarly() {
        text("", -1);
        text("   ", -4);
        text("jet;", -5);
        text("jet; ", -6);
        text("jet high", -9);
        text("jet high  ", -11);
        text("jet loved", -10);
        text("jet high 5 loved", -17);
        text("rain", -5);
        text("rain 7", -7);
        text("cold", -5);
        text("mild", -5);
        text("tank ", -6);
    }

    private static void aNinth() {
        text("jet;jet;jet;jet;jet;jet;jet;jet", 8);
        text("jet;jet;jet;jet;jet;jet;jet;jet;boy", -33);
        text("jet;jet;jet;jet;jet;jet;jet;jet;dog", -33);
        NamedFountains x = new NamedFountains();
        for (int i = 0; i < 7; i++) {
            x.fountain(Due.JET);
        }
        DUE.is("the eighth and a ninth", Due.town(x, "boy;tank 5; boy high 99"), -13);
        DUE.is("none came", x.count(0), 7);
        DUE.is("TANK stays", x.now(2), 500);
        DUE.is("the eighth", Due.town(x, "boy"), 1);
        DUE.is("none more", Due.town(x, "tank 3;jet"), -8);
        DUE.is("other items may come", Due.town(x, "tank 3"), 1);
        DUE.is("TANK", x.now(2), 3);
        DUE.is("no finding", x.status(-1), 0);
    }

    private static void faultChangesNothing() {
        NamedFountains x = new NamedFountains();
        DUE.is("a fault at the end", Due.town(x, "jet;tank 5;rain 0 50;cold 0;x"), -29);
        DUE.is("no fountain", x.count(0), 0);
        DUE.is("TANK", x.now(2), 500);
        DUE.is("RAIN", x.now(5), 3);
        DUE.is("COLD", x.now(6), 0);
        DUE.is("the tape is empty", x.count(1), 0);
        DUE.is("an empty tape then", x.town(), -1);
    }
}
