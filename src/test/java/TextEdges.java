/** The part "Terms", the text of a town, and promises 24 to 26: feed, wipe, town. */
final class TextEdges {
    private static final String TERMS = "Terms";
    private final Edge edge;

    TextEdges(Edge edge) {
        this.edge = edge;
    }

    void run() {
        tape();
        words();
        numbers();
        signAndBlanks();
        longestTokens();
        text();
        fountainItem();
        rainItem();
        frostItem();
        tankItem();
        faultOfNumbers();
        faultOfWords();
        faultOfBytes();
        faultOfANinth();
        faultOfTheEnd();
        feed();
        feedFull();
        wipe();
        town();
        townWithAFault();
    }

    /** What town() answers to a text in a new town. */
    private static int told(String text) {
        return Due.town(new NamedFountains(), text);
    }

    private static String times(int n, String text) {
        return text.repeat(n);
    }

    // ---- terms

    private void tape() {
        edge.names(TERMS, "THE TEXT of a TOWN, from THE TAPE (bytes, at most 120).");
        edge.at("no bytes", new NamedFountains().count(1), 0);
        edge.within("119 bytes", Edge.taped(119).count(1), 119);
        edge.at("120 bytes", Edge.taped(120).count(1), 120);
        edge.beyond("121 bytes", () -> Edge.taped(120), x -> x.feed(0x20, 1), Due.FULL);
        // Twenty items of five bytes and the signs between them are 119 bytes.
        String most = times(19, "cold1;") + "cold7";
        edge.within("a text of 119 bytes", told(most), 20);
        edge.at("a text of 120 bytes", told(most + " "), 20);
        edge.at("a text of 120 bytes, whose last one counts", told(times(19, "cold1;") + "cold 7"), 20);
        NamedFountains x = new NamedFountains();
        Due.town(x, times(19, "mild1;") + "tank99");
        edge.at("the last byte of 120 is read", x.now(2), 99);
        edge.beyond("a text of 120 bytes that ends too early", told(most + ";"), -121);
    }

    private void words() {
        edge.names(TERMS, "TOKENS, each as long as can be: WORDS (letters a to z),");
        // With a letter behind it, it is another word from its first byte on; with no letter the fault is behind it.
        edge.at("a", told("jeta"), -1);
        edge.within("b", told("jetb"), -1);
        edge.within("y", told("jety"), -1);
        edge.at("z", told("jetz"), -1);
        edge.beyond("the byte ahead of a", told("jet`"), -4);
        edge.beyond("the byte behind z", told("jet{"), -4);
        edge.beyond("A", told("jetA"), -4);
        edge.beyond("Z", told("jetZ"), -4);
        edge.within("a word shorter by a letter", told("je"), -1);
        edge.at("the word", told("jet"), 1);
        edge.beyond("a word longer by a letter", told("jets"), -1);
        edge.beyond("two words in one", told("jetoff"), -1);
        edge.at("two words", told("jet off"), 1);
    }

    private void numbers() {
        edge.names(TERMS, "NUMBERS (digits, 9999 at most),");
        edge.at("0", told("tank 0"), 1);
        edge.within("1", told("tank 1"), 1);
        edge.within("9998", told("tank 9998"), 1);
        edge.at("9999", told("tank 9999"), 1);
        edge.beyond("10000", told("tank 10000"), -6);
        edge.within("digit 9", told("tank 59"), 1);
        edge.beyond("the byte ahead of 0", told("tank 5/"), -7);
        edge.beyond("the byte behind 9", told("tank 5:"), -7);
        edge.beyond("2 to the 32", told("tank 4294967296"), -6);
        edge.beyond("2 to the 64", told("tank 18446744073709551616"), -6);
        edge.beyond("as many digits as there is room for", told("tank " + times(115, "9")), -6);
        edge.at("as many zeros as there is room for", told("tank " + times(115, "0")), 1);
        edge.within("zeros ahead of 9999", told("tank " + times(111, "0") + "9999"), 1);
        edge.beyond("zeros ahead of 10000", told("tank " + times(110, "0") + "10000"), -6);
        NamedFountains x = new NamedFountains();
        Due.town(x, "tank 1234");
        edge.within("the digits in their order", x.now(2), 1234);
    }

    private void signAndBlanks() {
        edge.names(TERMS, "SIGN ; ; blanks may stand between.");
        edge.at("a sign", told("jet;jet"), 2);
        edge.beyond("the byte ahead of it", told("jet:jet"), -4);
        edge.beyond("the byte behind it", told("jet<jet"), -4);
        edge.at("a blank", told("jet "), 1);
        edge.beyond("the byte ahead of a blank", told("jet" + (char) 31), -4);
        edge.beyond("the byte behind a blank", told("jet!"), -4);
        edge.beyond("a tab", told("jet\thigh 5"), -4);
        edge.beyond("a new line", told("jet\nhigh 5"), -4);
        edge.within("blanks between all", told("  jet   high  5  ;  rain  7  9  ;  cold  0  "), 3);
        edge.within("no blanks where none are needed", told("jet high5loved9off;rain7 9;cold0;tank5"), 4);
        edge.at("120 bytes, 117 of them blanks ahead", told(times(117, " ") + "jet"), 1);
        edge.at("120 bytes, 117 of them blanks behind", told("jet" + times(117, " ")), 1);
    }

    private void longestTokens() {
        NamedFountains x = new NamedFountains();
        edge.is("digits go together", Due.town(x, "rain 1 11"), 1);
        edge.is("RAIN", x.week(1, 0, 0), 11);
        edge.is("two numbers that go together are one", told("rain 111"), -6);
        edge.is("a word ends at a digit", told("cold7"), 1);
        edge.is("a number ends at a letter", told("jet high 5loved 7"), 1);
    }

    private void text() {
        edge.names(TERMS, "TEXT: ITEM { ; ITEM }.");
        edge.beyond("no item", told(""), -1);
        edge.at("one item", told("tank 5"), 1);
        edge.within("two items", told("tank 5;tank 6"), 2);
        edge.within("three items", told("tank 5;tank 6;tank 7"), 3);
        edge.beyond("a sign ahead", told(";tank 5"), -1);
        edge.beyond("a sign behind", told("tank 5;"), -8);
        edge.beyond("two signs between", told("tank 5;;tank 6"), -8);
        edge.beyond("no sign between", told("tank 5 tank 6"), -8);
        edge.beyond("a sign alone", told(";"), -1);
    }

    private void fountainItem() {
        edge.names(TERMS, "ITEM: the name of a KIND (jet mayor wife basin bishop boy), perhaps high and a NUMBER (1 to 40),"
            + " perhaps loved and a NUMBER (0 to 99), perhaps off: one more;");
        edge.beyond("high 0", told("jet high 0"), -10);
        edge.at("high 1", high("jet high 1"), 1);
        edge.within("high 2", high("jet high 2"), 2);
        edge.within("high 39", high("jet high 39"), 39);
        edge.at("high 40", high("jet high 40"), 40);
        edge.beyond("high 41", told("jet high 41"), -10);
        edge.at("loved 0", loved("jet loved 0"), 0);
        edge.within("loved 1", loved("jet loved 1"), 1);
        edge.within("loved 98", loved("jet loved 98"), 98);
        edge.at("loved 99", loved("jet loved 99"), 99);
        edge.beyond("loved 100", told("jet loved 100"), -11);
        edge.within("without high", high("jet loved 5 off"), 10);
        edge.within("without loved", loved("jet high 5 off"), 20);
        String[] names = {"jet", "mayor", "wife", "basin", "bishop", "boy"};
        for (int kind = 0; kind < 6; kind++) {
            oneMore(names[kind], kind, 10, 0, 20);
            oneMore(names[kind] + " high 7", kind, 7, 0, 20);
            oneMore(names[kind] + " loved 8", kind, 10, 0, 8);
            oneMore(names[kind] + " off", kind, 10, 1, 20);
            oneMore(names[kind] + " high 7 loved 8", kind, 7, 0, 8);
            oneMore(names[kind] + " high 7 off", kind, 7, 1, 20);
            oneMore(names[kind] + " loved 8 off", kind, 10, 1, 8);
            oneMore(names[kind] + " high 7 loved 8 off", kind, 7, 1, 8);
        }
        edge.beyond("loved ahead of high", told("jet loved 5 high 6"), -13);
        edge.beyond("off ahead of high", told("jet off high 6"), -9);
        edge.beyond("off ahead of loved", told("jet off loved 6"), -9);
        edge.beyond("high twice", told("jet high 5 high 6"), -12);
        edge.beyond("loved twice", told("jet loved 5 loved 6"), -13);
        edge.beyond("off twice", told("jet off off"), -9);
    }

    private static int high(String text) {
        NamedFountains x = new NamedFountains();
        return Due.town(x, text) == 1 ? x.of(0, 1) : -1;
    }

    private static int loved(String text) {
        NamedFountains x = new NamedFountains();
        return Due.town(x, text) == 1 ? x.of(0, 3) : -1;
    }

    private void oneMore(String text, int kind, int high, int off, int loved) {
        NamedFountains x = Edge.rich();
        x.wipe();
        edge.is(text, Due.town(x, text), 1);
        edge.is(text + ": one more", x.count(0), 5);
        int[] is = {kind, high, off, loved, 0};
        for (int what = 0; what < 5; what++) {
            edge.is(text + ": of(4, " + what + ")", x.of(4, what), is[what]);
        }
    }

    private void rainItem() {
        edge.names(TERMS, "rain, a NUMBER (a WEEK), a NUMBER (0 to 99);");
        int[] first = {3, 8, 13, 5, 10, 15, 7, 12};
        for (int w = 0; w < 8; w++) {
            NamedFountains x = new NamedFountains();
            edge.within("rain " + w + " 55", Due.town(x, "rain " + w + " 55"), 1);
            for (int v = 0; v < 8; v++) {
                edge.is("rain " + w + " 55: week " + v, x.week(v, 0, 0), v == w ? 55 : first[v]);
            }
        }
        edge.beyond("rain 8 55", told("rain 8 55"), -6);
        edge.at("rain 0 0", told("rain 0 0"), 1);
        edge.within("rain 0 1", told("rain 0 1"), 1);
        edge.within("rain 0 98", told("rain 0 98"), 1);
        edge.at("rain 7 99", told("rain 7 99"), 1);
        edge.beyond("rain 7 100", told("rain 7 100"), -8);
        edge.beyond("three numbers", told("rain 7 9 9"), -10);
        edge.beyond("one number", told("rain 7"), -7);
    }

    private void frostItem() {
        edge.names(TERMS, "cold or mild, a NUMBER (a WEEK);");
        for (int w = 0; w < 8; w++) {
            NamedFountains x = new NamedFountains();
            edge.within("cold " + w, Due.town(x, "cold " + w), 1);
            for (int v = 0; v < 8; v++) {
                edge.is("cold " + w + ": week " + v, x.week(v, 1, 1), v == w ? 1 : 0);
            }
            edge.within("mild " + w, Due.town(x, "mild " + w), 1);
            for (int v = 0; v < 8; v++) {
                edge.is("mild " + w + ": week " + v, x.week(v, 1, 1), v == w ? 0 : 1);
            }
        }
        edge.at("cold 7", told("cold 7"), 1);
        edge.beyond("cold 8", told("cold 8"), -6);
        edge.at("mild 7", told("mild 7"), 1);
        edge.beyond("mild 8", told("mild 8"), -6);
        edge.beyond("cold 7 1", told("cold 7 1"), -8);
        edge.beyond("mild 7 1", told("mild 7 1"), -8);
    }

    private void tankItem() {
        edge.names(TERMS, "tank and a NUMBER (0 to 9999).");
        int[] may = {0, 1, 9998, 9999};
        for (int v : may) {
            NamedFountains x = new NamedFountains();
            edge.within("tank " + v, Due.town(x, "tank " + v), 1);
            edge.at("tank " + v + ": TANK", x.now(2), v);
        }
        edge.beyond("tank 10000", told("tank 10000"), -6);
        edge.beyond("tank 5 6", told("tank 5 6"), -8);
        edge.beyond("drought 5", told("drought 5"), -1);
        edge.beyond("plenty 5", told("plenty 5"), -1);
    }

    private void faultOfNumbers() {
        edge.names(TERMS, "FAULT: the place (from 0) of the first byte of the first TOKEN that can't stand there (a NUMBER"
            + " that may not be, another WORD, a byte that begins no TOKEN, the name of a KIND for a 9th: its own),");
        edge.within("a number that may be", told("jet high 40"), 1);
        edge.at("a number that may not be", told("jet high 41"), -10);
        edge.at("its first byte", told("jet high  041"), -11);
        edge.at("a number for the first token", told("5"), -1);
        edge.at("a number for a sign", told("jet 5"), -5);
        edge.at("a number behind off", told("jet off 5"), -9);
        edge.at("the first of two faults", told("jet high 0 loved 100"), -10);
        edge.beyond("the second where the first is none", told("jet high 1 loved 100"), -18);
        edge.at("in the second item", told("tank 5;rain 8 9"), -13);
    }

    private void faultOfWords() {
        edge.at("another word first", told("dog"), -1);
        edge.at("another word behind blanks", told("   dog"), -4);
        edge.at("another word behind an item", told("jet dog"), -5);
        edge.at("another word for a number", told("jet high dog"), -10);
        edge.at("a word that may stand elsewhere", told("high 5"), -1);
        edge.at("the name of a kind for a number", told("jet high jet"), -10);
        edge.at("the name of a kind for a sign", told("jet jet"), -5);
        edge.at("another word in the third item", told("tank 5;tank 6;dog"), -15);
        edge.at("a sign for a number", told("jet high;"), -9);
        edge.at("a sign for a number of rain", told("rain 7;5"), -7);
        edge.at("a word of 120 bytes", told(times(120, "a")), -1);
        edge.at("a fault at the last of 120 bytes", told(times(19, "cold1;") + "cold1x"), -120);
        otherWords();
        otherThanNumbers();
    }

    /** Every word of the text with one letter changed, left out or put to it is another one, and stands nowhere. */
    private void otherWords() {
        String[] before = {"", "", "", "", "", "", "", "", "", "", "jet ", "jet ", "jet "};
        String[] words = {"jet", "mayor", "wife", "basin", "bishop", "boy", "rain", "cold", "mild", "tank", "high", "loved",
            "off"};
        String[] after = {"", "", "", "", "", "", " 1 2", " 1", " 1", " 1", " 1", " 1", ""};
        for (int w = 0; w < words.length; w++) {
            String word = words[w];
            int fault = -1 - before[w].length();
            edge.within(word, told(before[w] + word + after[w]), 1);
            for (int i = 0; i < word.length(); i++) {
                String ahead = before[w] + word.substring(0, i);
                String behind = word.substring(i + 1) + after[w];
                edge.at(word + " with another letter at " + i, told(ahead + "q" + behind), fault);
                edge.at(word + " without its letter at " + i, told(ahead + behind), fault);
                edge.at(word + " with a letter more at " + i, told(ahead + "q" + word.charAt(i) + behind), fault);
            }
            edge.at(word + " with a letter more behind", told(before[w] + word + "q" + after[w]), fault);
        }
    }

    /** Where a number must stand, nothing else may, whatever number stood ahead of it. */
    private void otherThanNumbers() {
        String[] wanting = {"jet high", "jet loved", "jet high 5 loved", "rain", "rain 7", "cold", "mild", "tank"};
        String[] others = {"off", "dog", "high", ";", "!", "-1"};
        String[] ahead = {"", "tank 5;", "tank 0;"};
        for (String text : wanting) {
            edge.within(text + " 5", told(text + " 5" + (text.equals("rain") ? " 5" : "")), 1);
            for (String other : others) {
                for (String item : ahead) {
                    String whole = item + text + " " + other;
                    edge.at("\"" + whole + "\"", told(whole), -1 - item.length() - text.length() - 1);
                }
            }
        }
    }

    private void faultOfBytes() {
        int[] none = {0, 9, 10, 13, 31, 33, 44, 45, 47, 58, 60, 65, 90, 96, 123, 127, 128, 160, 255};
        for (int b : none) {
            edge.at("byte " + b + " first", told("" + (char) b), -1);
            edge.at("byte " + b + " behind a word", told("jet" + (char) b), -4);
            edge.at("byte " + b + " behind a number", told("jet high 5" + (char) b), -11);
            edge.at("byte " + b + " behind a blank", told("jet " + (char) b), -5);
        }
        edge.at("another word ahead of such a byte", told("dog !"), -1);
        edge.beyond("such a byte ahead of another word", told("jet ! dog"), -5);
    }

    /** What town() answers to a text in a town with so many fountains. */
    private static int toldWith(int fountains, String text) {
        return Due.town(Edge.many(fountains), text);
    }

    private void faultOfANinth() {
        edge.within("seven", told("jet" + times(6, ";boy")), 7);
        edge.at("eight", told("jet" + times(7, ";boy")), 8);
        edge.beyond("nine", told("jet" + times(8, ";boy")), -33);
        edge.at("one where seven are", toldWith(7, "boy"), 1);
        edge.beyond("two where seven are", toldWith(7, "boy; wife"), -6);
        edge.beyond("one where eight are", toldWith(8, "boy"), -1);
        edge.beyond("its own place, though a fault follows", toldWith(8, "boy high 99"), -1);
        edge.beyond("its own place, though a fault went ahead in its item", toldWith(8, "  wife off off"), -3);
        edge.within("other items where eight are", toldWith(8, "tank 5;rain 0 5;cold 0"), 3);
        edge.at("another word where eight are", toldWith(8, "tank 5;dog"), -8);
    }

    private void faultOfTheEnd() {
        edge.names(TERMS, "or how many bytes there are if it ends too early.");
        edge.at("no bytes", told(""), -1);
        edge.at("one blank", told(" "), -2);
        edge.at("120 blanks", told(times(120, " ")), -121);
        String[] early = {"jet;", "jet; ", "jet high", "jet high ", "jet loved", "jet high 5 loved", "rain", "rain 7",
            "rain 7 ", "cold", "mild", "tank", "tank  "};
        for (String text : early) {
            edge.at("\"" + text + "\"", told(text), -1 - text.length());
        }
        String[] inTime = {"jet", "jet ", "jet high 5", "jet loved 5", "jet off", "rain 7 5", "cold 7", "mild 7", "tank 5 "};
        for (String text : inTime) {
            edge.within("\"" + text + "\"", told(text), 1);
        }
        edge.beyond("a word that goes on is another word, no early end", told("jet hig"), -5);
    }

    // ---- promises

    private void feed() {
        String promise = "Promise 24";
        edge.names(promise, "THE TAPE gets the n lowest bytes of a number behind it, the highest of these first (n 1 to 4):"
            + " how many it has.");
        NamedFountains x = new NamedFountains();
        edge.at("one of four bytes", x.feed(0x7A7A7A6A, 1), 1);
        edge.within("two of four bytes", x.feed(0x7A7A6574, 2), 3);
        edge.within("three of four bytes", x.feed(0x7A206869, 3), 6);
        edge.at("four bytes", x.feed(0x67682037, 4), 10);
        edge.is("jet high 7", x.town(), 1);
        edge.is("HIGH", x.of(0, 1), 7);
        edge.beyond("0 bytes", Edge::rich, y -> y.feed(0x6A, 0), Due.BEYOND);
        edge.beyond("5 bytes", Edge::rich, y -> y.feed(0x6A, 5), Due.BEYOND);
        NamedFountains z = new NamedFountains();
        edge.at("a number below 0", z.feed(0x80000000, 4), 4);
        edge.at("its highest byte begins no token", z.town(), -1);
        z.feed(0xFFFF6A65, 2);
        z.feed(-140, 1);
        edge.within("the lowest byte of a number below 0", z.town(), 1);
        edge.plain(promise, "BEYOND: n.");
        int[] wrong = {-1, 0, 5, 8, Integer.MIN_VALUE, Integer.MAX_VALUE};
        for (int n : wrong) {
            edge.beyond("feed(32, " + n + ")", Edge::rich, y -> y.feed(32, n), Due.BEYOND);
        }
    }

    private void feedFull() {
        edge.names("Promise 24", "FULL.");
        for (int n = 1; n <= 4; n++) {
            int more = n;
            edge.within("119 with " + n, Edge.taped(119 - n).feed(0x20202020, n), 119);
            edge.at("120 with " + n, Edge.taped(120 - n).feed(0x20202020, n), 120);
            edge.beyond("121 with " + n, () -> Edge.taped(121 - more), x -> x.feed(0x20202020, more), Due.FULL);
            edge.beyond(120 + n + " with " + n, () -> Edge.taped(120), x -> x.feed(0x20202020, more), Due.FULL);
        }
        NamedFountains x = Edge.taped(120);
        x.feed(0x6A, 1);
        edge.is("nothing of it came", x.town(), -121);
    }

    private void wipe() {
        edge.names("Promise 25", "THE TAPE is empty: how many it had.");
        edge.beyond("none", new NamedFountains().wipe(), 0);
        edge.within("one", Edge.taped(1).wipe(), 1);
        edge.within("119", Edge.taped(119).wipe(), 119);
        edge.at("120", Edge.taped(120).wipe(), 120);
        NamedFountains x = Edge.taped(120);
        x.wipe();
        edge.at("empty then", x.count(1), 0);
        edge.at("another time", x.wipe(), 0);
        edge.at("there is room again", Due.feed(x, "tank 7"), 6);
        edge.at("what was wiped is gone", x.town(), 1);
        NamedFountains y = Edge.rich();
        y.wipe();
        NamedFountains z = Edge.rich();
        z.wipe();
        Due.feed(z, "tank 7");
        z.wipe();
        edge.alike("what is wiped comes to nothing", y, z);
    }

    private void town() {
        String promise = "Promise 26";
        edge.names(promise, "THE TAPE is THE TEXT of a TOWN, whose ITEMS come to what there is, and empty then: how many"
            + " ITEMS.");
        edge.at("one item", told("jet"), 1);
        edge.within("two items", told("jet;jet"), 2);
        edge.within("the most that there is room for", told(times(8, "boy;") + times(13, "cold0;") + "cold0"), 22);
        edge.beyond("no item", told(""), -1);
        NamedFountains x = Edge.many(3);
        x.set(2, 1, 33);
        edge.within("two more", Due.town(x, "boy off;tank 5;wife loved 9"), 3);
        edge.within("FOUNTAINS", x.count(0), 5);
        edge.within("what there was stays", x.of(2, 1), 33);
        edge.within("the first of them", x.of(3, 0), Due.BOY);
        edge.within("the last of them", x.of(4, 3), 9);
        edge.at("THE TAPE is empty then", x.count(1), 0);
        edge.beyond("another time", x.town(), -1);
        edge.within("of two alike the later holds", Due.town(x, "tank 5;tank 6"), 2);
        edge.is("TANK", x.now(2), 6);
        edge.within("a tape that two calls fed", Due.feed(x, "tank") + Due.feed(x, " 8"), 10);
        edge.within("it is one text", x.town(), 1);
        edge.is("TANK then", x.now(2), 8);
        edge.is("no findings", x.status(-1), 0);
    }

    private void townWithAFault() {
        edge.names("Promise 26", "With a FAULT: -1 less its place (nothing changes but that THE TAPE is empty; no finding).");
        edge.at("place 0", told("x"), -1);
        edge.within("place 1", told(" x"), -2);
        edge.within("place 119", told(times(119, " ") + "x"), -120);
        edge.at("place 120", told(times(120, " ")), -121);
        String[] faulty = {"", "x", "jet;tank 5;rain 0 50;cold 0;x", "tank 5;", "jet high 3 loved 4 off off",
            "jet;jet;jet;jet;jet", "mild 1;rain 1 8", "rain 1 9;mild 1;tank 0;boy high 0"};
        for (String text : faulty) {
            boolean right = text.equals("mild 1;rain 1 8");
            NamedFountains asked = Edge.rich();
            NamedFountains other = Edge.rich();
            asked.wipe();
            other.wipe();
            int answer = Due.town(asked, text);
            if (right) {
                edge.within("\"" + text + "\" has none", answer, 2);
                edge.within("it came", asked.week(1, 1, 0), 0);
            } else {
                edge.beyond("\"" + text + "\" has one", answer < 0 && answer >= -121 ? 1 : 0, 1);
                edge.is("\"" + text + "\": no finding", asked.status(-1), other.status(-1));
                edge.is("\"" + text + "\": THE TAPE is empty", asked.count(1), 0);
                edge.alike("\"" + text + "\"", asked, other);
            }
        }
    }
}
