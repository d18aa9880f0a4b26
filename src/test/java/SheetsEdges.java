/** Promises 27 to 32: sheet, write, copy, lays, book, read. */
final class SheetsEdges {
    private static final int[] NO_SHEET = {-1, 4, Integer.MIN_VALUE, Integer.MAX_VALUE};
    private static final int[] BITS = {8, 16, 64};
    private final Edge edge;

    SheetsEdges(Edge edge) {
        this.edge = edge;
    }

    void run() {
        sheet();
        sheetRefused();
        write();
        writeBits();
        writeRefused();
        copy();
        copyOfItself();
        copyRefused();
        copyBeyond();
        lays();
        book();
        read();
        readPairs();
        readRefused();
    }

    /** A town with sheet 0 of so many numbers of 64 bits, which are 1, 2, 3 and so on. */
    private static NamedFountains withRow(int n) {
        NamedFountains x = new NamedFountains();
        x.sheet(0, 64, n);
        for (int i = 0; i < n; i++) {
            x.write(0, i, i + 1);
        }
        return x;
    }

    private void sheet() {
        edge.names("Promise 27", "A sheet has n numbers, all 0, of 8, 16 or 64 bits; bits 0: it is MISSING: n (0 if it is"
            + " MISSING).");
        for (int bits : BITS) {
            for (int s = 0; s < 4; s++) {
                edge.at("none of " + bits + " bits", new NamedFountains().sheet(s, bits, 0), 0);
                edge.within("one of " + bits + " bits", new NamedFountains().sheet(s, bits, 1), 1);
                edge.within("39 of " + bits + " bits", new NamedFountains().sheet(s, bits, 39), 39);
                edge.at("40 of " + bits + " bits", new NamedFountains().sheet(s, bits, 40), 40);
            }
            NamedFountains x = withRow(40);
            x.sheet(0, bits, 40);
            for (int i = 0; i < 40; i++) {
                edge.is("all 0 of " + bits + " bits: " + i, x.write(0, i, 9), 0);
            }
            x.sheet(0, bits, 1);
            x.sheet(0, bits, 40);
            edge.at("all 0 again where it was shorter", x.write(0, 39, 9), 0);
        }
        edge.at("a sheet of none isn't MISSING", Edge.rich().sheet(0, 8, 0) + withRow(0).lays(0), 0);
        edge.at("a sheet of none has no number", () -> withRow(0), x -> x.write(0, 0, 1), Due.BEYOND);
        int[] may = {0, 1, 39, 40};
        for (int n : may) {
            edge.within("bits 0 and " + n, Edge.rich().sheet(0, 0, n), 0);
        }
        edge.beyond("MISSING then", () -> {
            NamedFountains x = withRow(3);
            x.sheet(0, 0, 3);
            return x;
        }, x -> x.write(0, 0, 1), Due.MISSING);
        edge.is("bits 0 where it is MISSING", Edge.rich().sheet(3, 0, 40), 0);
        NamedFountains x = withRow(3);
        x.sheet(0, 0, 3);
        x.sheet(0, 64, 3);
        edge.is("all 0 where it was MISSING", x.write(0, 2, 1), 0);
        NamedFountains y = withRow(3);
        y.sheet(1, 64, 3);
        edge.is("other sheets stay", y.write(0, 2, 1), 3);
    }

    private void sheetRefused() {
        edge.names("Promise 27", "BEYOND: no such sheet, other bits.");
        edge.at("sheet 0", new NamedFountains().sheet(0, 8, 1), 1);
        edge.within("sheet 1", new NamedFountains().sheet(1, 8, 1), 1);
        edge.within("sheet 2", new NamedFountains().sheet(2, 8, 1), 1);
        edge.at("sheet 3", new NamedFountains().sheet(3, 8, 1), 1);
        for (int s : NO_SHEET) {
            edge.beyond("sheet " + s, Edge::rich, x -> x.sheet(s, 8, 1), Due.BEYOND);
            edge.beyond("sheet " + s + ", bits 0", Edge::rich, x -> x.sheet(s, 0, 1), Due.BEYOND);
            edge.beyond("sheet " + s + ", though n is below 0", Edge::rich, x -> x.sheet(s, 8, -1), Due.BEYOND);
        }
        int[] other = {-8, -1, 1, 7, 9, 15, 17, 32, 63, 65, Integer.MIN_VALUE, Integer.MAX_VALUE};
        for (int bits : other) {
            edge.beyond("bits " + bits, Edge::rich, x -> x.sheet(0, bits, 1), Due.BEYOND);
            edge.beyond("bits " + bits + ", though n is below 0", Edge::rich, x -> x.sheet(0, bits, -1), Due.BEYOND);
        }
        edge.names("Promise 27", "SIZE: n is below 0 (also with bits 0).");
        int[] all = {0, 8, 16, 64};
        for (int bits : all) {
            edge.at("0 of " + bits + " bits", Edge.rich().sheet(0, bits, 0), 0);
            edge.within("1 of " + bits + " bits", Edge.rich().sheet(0, bits, 1), bits == 0 ? 0 : 1);
            edge.beyond("-1 of " + bits + " bits", Edge::rich, x -> x.sheet(0, bits, -1), Due.SIZE);
            edge.beyond("the least n of " + bits + " bits", Edge::rich, x -> x.sheet(0, bits, Integer.MIN_VALUE), Due.SIZE);
        }
        edge.names("Promise 27", "BEYOND: n is above 40 (also with bits 0).");
        for (int bits : all) {
            edge.within("39 of " + bits + " bits", Edge.rich().sheet(0, bits, 39), bits == 0 ? 0 : 39);
            edge.at("40 of " + bits + " bits", Edge.rich().sheet(0, bits, 40), bits == 0 ? 0 : 40);
            edge.beyond("41 of " + bits + " bits", Edge::rich, x -> x.sheet(0, bits, 41), Due.BEYOND);
            edge.beyond("the most n of " + bits + " bits", Edge::rich, x -> x.sheet(0, bits, Integer.MAX_VALUE), Due.BEYOND);
        }
    }

    private void write() {
        edge.names("Promise 28", "Number i of a sheet becomes v (its lowest bits): what it was.");
        NamedFountains x = withRow(40);
        edge.at("number 0", x.write(0, 0, 100), 1);
        edge.within("number 1", x.write(0, 1, 101), 2);
        edge.within("number 38", x.write(0, 38, 138), 39);
        edge.at("number 39", x.write(0, 39, 139), 40);
        edge.at("number 0 again", x.write(0, 0, 0), 100);
        edge.at("number 39 again", x.write(0, 39, 0), 139);
        edge.is("number 2 stays", x.write(0, 2, 0), 3);
        edge.is("number 37 stays", x.write(0, 37, 0), 38);
    }

    private static long kept(int bits, long v) {
        NamedFountains x = new NamedFountains();
        x.sheet(0, bits, 1);
        x.write(0, 0, v);
        return x.write(0, 0, 0);
    }

    private void writeBits() {
        edge.within("126 in 8 bits", kept(8, 126), 126);
        edge.at("127 in 8 bits", kept(8, 127), 127);
        edge.beyond("128 in 8 bits", kept(8, 128), -128);
        edge.beyond("255 in 8 bits", kept(8, 255), -1);
        edge.beyond("256 in 8 bits", kept(8, 256), 0);
        edge.at("-128 in 8 bits", kept(8, -128), -128);
        edge.beyond("-129 in 8 bits", kept(8, -129), 127);
        edge.within("32766 in 16 bits", kept(16, 32766), 32766);
        edge.at("32767 in 16 bits", kept(16, 32767), 32767);
        edge.beyond("32768 in 16 bits", kept(16, 32768), -32768);
        edge.beyond("65535 in 16 bits", kept(16, 65535), -1);
        edge.beyond("65536 in 16 bits", kept(16, 65536), 0);
        edge.at("-32768 in 16 bits", kept(16, -32768), -32768);
        edge.beyond("-32769 in 16 bits", kept(16, -32769), 32767);
        edge.within("2 to the 32 in 64 bits", kept(64, 1L << 32), 1L << 32);
        edge.at("the most in 64 bits", kept(64, Long.MAX_VALUE), Long.MAX_VALUE);
        edge.at("the least in 64 bits", kept(64, Long.MIN_VALUE), Long.MIN_VALUE);
        edge.beyond("the most in 16 bits", kept(16, Long.MAX_VALUE), -1);
        edge.beyond("the least in 8 bits", kept(8, Long.MIN_VALUE), 0);
    }

    private void writeRefused() {
        edge.names("Promise 28", "BEYOND: no such sheet.");
        for (int s = 0; s < 4; s++) {
            NamedFountains x = new NamedFountains();
            x.sheet(s, 8, 1);
            edge.within("sheet " + s, x.write(s, 0, 5), 0);
            edge.at("sheet " + s + " again", x.write(s, 0, 5), 5);
        }
        for (int s : NO_SHEET) {
            edge.beyond("sheet " + s, Edge::rich, x -> x.write(s, 0, 5), Due.BEYOND);
        }
        edge.plain("Promise 28", "MISSING.");
        edge.at("at first", NamedFountains::new, x -> x.write(0, 0, 5), Due.MISSING);
        edge.at("though there be no such number", Edge::rich, x -> x.write(3, 40, 5), Due.MISSING);
        edge.is("not a sheet of one", withRow(1).write(0, 0, 5), 1);
        edge.names("Promise 28", "BEYOND: no such number.");
        int[] lengths = {1, 2, 39, 40};
        for (int n : lengths) {
            edge.at("the last of " + n, withRow(n).write(0, n - 1, 5), n);
            edge.within("the first of " + n, withRow(n).write(0, 0, 5), 1);
            edge.beyond("one behind the last of " + n, () -> withRow(n), x -> x.write(0, n, 5), Due.BEYOND);
        }
        int[] none = {-1, 3, 40, Integer.MIN_VALUE, Integer.MAX_VALUE};
        for (int i : none) {
            edge.beyond("number " + i + " of three", () -> withRow(3), x -> x.write(0, i, 5), Due.BEYOND);
        }
        edge.beyond("number 0 of none", () -> withRow(0), x -> x.write(0, 0, 5), Due.BEYOND);
    }

    /** Sheet 0 of 1 to 40, sheet 1 of 40 zeros, of as many bits. */
    private static NamedFountains two(int bits) {
        NamedFountains x = new NamedFountains();
        x.sheet(0, bits, 40);
        x.sheet(1, bits, 40);
        for (int i = 0; i < 40; i++) {
            x.write(0, i, i + 1);
        }
        return x;
    }

    private void copy() {
        edge.names("Promise 29", "n numbers of a sheet from one on come to another one from one on (as they all were): n.");
        for (int bits : BITS) {
            NamedFountains x = two(bits);
            edge.at("none", x.copy(0, 0, 1, 0, 0), 0);
            edge.is("none came", x.write(1, 0, 0), 0);
            edge.within("one", x.copy(0, 0, 1, 0, 1), 1);
            edge.is("it came", x.write(1, 0, 0), 1);
            edge.within("39", x.copy(0, 1, 1, 0, 39), 39);
            edge.is("the first of them", x.write(1, 0, 0), 2);
            edge.is("the last of them", x.write(1, 38, 0), 40);
            edge.is("none behind it", x.write(1, 39, 0), 0);
            edge.at("40", x.copy(0, 0, 1, 0, 40), 40);
            for (int i = 0; i < 40; i++) {
                edge.is("number " + i + " there", x.write(1, i, 0), i + 1);
            }
            edge.is("the first here", x.write(0, 0, 1), 1);
            edge.is("the last here", x.write(0, 39, 40), 40);
            edge.at("the last to the first", x.copy(0, 39, 1, 0, 1), 1);
            edge.is("it is there", x.write(1, 0, 0), 40);
            edge.at("the first to the last", x.copy(0, 0, 1, 39, 1), 1);
            edge.is("it is there at the end", x.write(1, 39, 0), 1);
        }
        edge.beyond("one too many", () -> two(8), x -> x.copy(0, 0, 1, 0, 41), Due.BEYOND);
    }

    private void copyOfItself() {
        NamedFountains up = withRow(5);
        edge.at("up over itself", up.copy(0, 0, 0, 1, 4), 4);
        int[] isUp = {1, 1, 2, 3, 4};
        NamedFountains down = withRow(5);
        edge.at("down over itself", down.copy(0, 1, 0, 0, 4), 4);
        int[] isDown = {2, 3, 4, 5, 5};
        NamedFountains same = withRow(5);
        edge.at("onto itself", same.copy(0, 0, 0, 0, 5), 5);
        for (int i = 0; i < 5; i++) {
            edge.is("up: " + i, up.write(0, i, 0), isUp[i]);
            edge.is("down: " + i, down.write(0, i, 0), isDown[i]);
            edge.is("onto itself: " + i, same.write(0, i, 0), i + 1);
        }
    }

    private void copyRefused() {
        edge.names("Promise 29", "BEYOND: no such sheet (either).");
        edge.at("0 to 3", ends().copy(0, 0, 3, 0, 1), 1);
        edge.at("3 to 0", ends().copy(3, 0, 0, 0, 1), 1);
        edge.within("3 to 3", ends().copy(3, 0, 3, 0, 1), 1);
        for (int s : NO_SHEET) {
            edge.beyond("from " + s, Edge::rich, x -> x.copy(s, 0, 0, 0, 1), Due.BEYOND);
            edge.beyond("to " + s, Edge::rich, x -> x.copy(0, 0, s, 0, 1), Due.BEYOND);
            edge.beyond("from " + s + " to a missing one", Edge::rich, x -> x.copy(s, 0, 3, 0, 1), Due.BEYOND);
            edge.beyond("from a missing one to " + s, Edge::rich, x -> x.copy(3, 0, s, 0, 1), Due.BEYOND);
            edge.beyond("from " + s + " to itself", Edge::rich, x -> x.copy(s, 0, s, 0, 0), Due.BEYOND);
        }
        edge.names("Promise 29", "MISSING: one is.");
        edge.within("none is", Edge.rich().copy(0, 0, 0, 0, 1), 1);
        edge.at("the one that it comes from", Edge::rich, x -> x.copy(3, 0, 0, 0, 1), Due.MISSING);
        edge.at("the one that it comes to", Edge::rich, x -> x.copy(0, 0, 3, 0, 1), Due.MISSING);
        edge.beyond("both are", Edge::rich, x -> x.copy(3, 0, 3, 0, 1), Due.MISSING);
        edge.beyond("also for none", Edge::rich, x -> x.copy(3, 0, 3, 0, 0), Due.MISSING);
        edge.beyond("also for less than none", Edge::rich, x -> x.copy(0, -1, 3, -1, -1), Due.MISSING);
        edge.names("Promise 29", "KIND: they are not of as many bits.");
        for (int s = 0; s < 3; s++) {
            for (int t = 0; t < 3; t++) {
                int from = s;
                int to = t;
                if (s == t) {
                    edge.within(s + " to itself", Edge.rich().copy(s, 0, t, 0, 1), 1);
                } else {
                    edge.at(s + " to " + t, Edge::rich, x -> x.copy(from, 0, to, 0, 1), Due.KIND);
                    edge.beyond(s + " to " + t + ", none", Edge::rich, x -> x.copy(from, 0, to, 0, 0), Due.KIND);
                    edge.beyond(s + " to " + t + ", below 0", Edge::rich, x -> x.copy(from, -1, to, 99, -1), Due.KIND);
                }
            }
        }
    }

    private static NamedFountains ends() {
        NamedFountains x = new NamedFountains();
        x.sheet(0, 16, 1);
        x.sheet(3, 16, 1);
        return x;
    }

    /** Sheet 0 of five numbers, sheet 1 of three. */
    private static NamedFountains uneven() {
        NamedFountains x = withRow(5);
        x.sheet(1, 64, 3);
        return x;
    }

    private void copyBeyond() {
        edge.names("Promise 29", "BEYOND: one has not so many, or from, to or n is below 0.");
        int max = Integer.MAX_VALUE;
        int min = Integer.MIN_VALUE;
        // from, to, n: what fits just so, and what is one too many for the one or for the other.
        int[][] fit = {{0, 0, 3}, {2, 0, 3}, {4, 2, 1}, {5, 3, 0}, {5, 0, 0}, {0, 3, 0}};
        for (int[] f : fit) {
            edge.at(f[0] + ", " + f[1] + ", " + f[2], uneven().copy(0, f[0], 1, f[1], f[2]), f[2]);
        }
        int[][] inside = {{0, 0, 2}, {1, 0, 2}, {1, 1, 1}, {1, 1, 0}};
        for (int[] f : inside) {
            edge.within(f[0] + ", " + f[1] + ", " + f[2], uneven().copy(0, f[0], 1, f[1], f[2]), f[2]);
        }
        int[][] wrong = {{0, 0, 4}, {3, 0, 3}, {5, 0, 1}, {0, 3, 1}, {0, 1, 3}, {6, 0, 0}, {0, 4, 0}, {-1, 0, 0},
            {0, -1, 0}, {0, 0, -1}, {-1, 0, 1}, {0, -1, 1}, {-1, -1, -1}, {max, 0, 1}, {0, max, 1}, {0, 0, max},
            {1, 1, max}, {max, max, max}, {max, 0, 0}, {0, max, 0}, {min, 0, 0}, {0, min, 0}, {0, 0, min},
            {min, min, min}, {max, 0, min}, {2, 0, max - 1}};
        for (int[] w : wrong) {
            String call = w[0] + ", " + w[1] + ", " + w[2];
            edge.beyond(call, SheetsEdges::uneven, x -> x.copy(0, w[0], 1, w[1], w[2]), Due.BEYOND);
            edge.beyond(call + " the other way", SheetsEdges::uneven, x -> x.copy(1, w[1], 0, w[0], w[2]), Due.BEYOND);
        }
        edge.at("none of a sheet of none", withRow(0).copy(0, 0, 0, 0, 0), 0);
        edge.beyond("one of a sheet of none", () -> withRow(0), x -> x.copy(0, 0, 0, 0, 1), Due.BEYOND);
    }

    /** A sheet of 64 bits of these numbers laid on a new town. */
    private static NamedFountains withSheet(int bits, long... numbers) {
        NamedFountains x = new NamedFountains();
        x.sheet(0, bits, numbers.length);
        for (int i = 0; i < numbers.length; i++) {
            x.write(0, i, numbers[i]);
        }
        return x;
    }

    private void lays() {
        edge.names("Promise 30", "Numbers of a sheet become RAIN of WEEKS 0, 1, .. (those that aren't 0 to 99, or stand for"
            + " none, are left out): how many came.");
        long[] may = {0, 1, 98, 99};
        for (long v : may) {
            NamedFountains x = withSheet(64, v);
            edge.at(v + " comes", x.lays(0), 1);
            edge.within(v + " is RAIN then", x.week(0, 0, 0), v);
        }
        long[] mayNot = {-1, 100, 1L << 32, (1L << 32) + 5, -(1L << 32) + 5, Long.MIN_VALUE, Long.MAX_VALUE};
        for (long v : mayNot) {
            NamedFountains x = withSheet(64, v, 7);
            edge.beyond(v + " is left out", x.lays(0), 1);
            edge.beyond(v + ": RAIN stays", x.week(0, 0, 0), 3);
            edge.beyond(v + ": the next one comes", x.week(1, 0, 0), 7);
        }
        edge.at("none", withSheet(64).lays(0), 0);
        edge.within("seven", withSheet(64, 1, 1, 1, 1, 1, 1, 1).lays(0), 7);
        edge.at("eight", withSheet(64, 1, 1, 1, 1, 1, 1, 1, 1).lays(0), 8);
        edge.beyond("the ninth stands for none", withSheet(64, 1, 1, 1, 1, 1, 1, 1, 1, 1).lays(0), 8);
        edge.beyond("the ninth stands for none, though one is left out",
            withSheet(64, 1, 1, 1, -1, 1, 1, 1, 1, 1).lays(0), 7);
        NamedFountains forty = withRow(40);
        edge.beyond("of forty", forty.lays(0), 8);
        for (int w = 0; w < 8; w++) {
            edge.is("RAIN of week " + w, forty.week(w, 0, 0), w + 1);
        }
        NamedFountains seven = withSheet(16, 1, 1, 1, 1, 1, 1, 1);
        seven.lays(0);
        edge.within("the eighth week stays", seven.week(7, 0, 0), 12);
        edge.at("99 of 8 bits", withSheet(8, 99).lays(0), 1);
        edge.beyond("200 of 8 bits", withSheet(8, 200).lays(0), 0);
        edge.beyond("256 of 8 bits is 0", withSheet(8, 256).lays(0), 1);
        edge.names("Promise 30", "BEYOND: no such sheet.");
        refusesSheets("lays", NamedFountains::lays);
        edge.plain("Promise 30", "MISSING.");
        edge.at("at first", NamedFountains::new, x -> x.lays(0), Due.MISSING);
        edge.at("sheet 3", Edge::rich, x -> x.lays(3), Due.MISSING);
        edge.is("not a sheet of none", withRow(0).lays(0), 0);
    }

    private interface OnSheet {
        int act(NamedFountains x, int s);
    }

    /** Sheets 0 to 3 are there for an act, and none below or above. */
    private void refusesSheets(String name, OnSheet call) {
        for (int s = 0; s < 4; s++) {
            NamedFountains x = Edge.many(1);
            x.sheet(s, 16, 0);
            int answer = call.act(x, s);
            if (s == 0 || s == 3) {
                edge.at(name + "(" + s + ")", answer >= 0 ? 1 : 0, 1);
            } else {
                edge.within(name + "(" + s + ")", answer >= 0 ? 1 : 0, 1);
            }
        }
        for (int s : NO_SHEET) {
            edge.beyond(name + "(" + s + ")", Edge::rich, x -> call.act(x, s), Due.BEYOND);
        }
    }

    private void book() {
        edge.names("Promise 31", "A book: TANK ON 0, 1, 2, .. DAYS comes to a sheet, as many as it has numbers: how many.");
        int[] lengths = {0, 1, 2, 39, 40};
        for (int n : lengths) {
            NamedFountains x = Edge.jets(9999, 40);
            x.turn(0, Due.MAYOR);
            x.sheet(0, 16, n);
            edge.at(n + " numbers", x.book(0), n);
            for (int i = 0; i < n; i++) {
                edge.within(n + " numbers: " + i, x.write(0, i, 0), 9999 - 80 * i);
            }
            edge.is(n + " numbers: TANK stays", x.now(2), 9999);
            edge.is(n + " numbers: DAY stays", x.now(0), 0);
        }
        int[] tanks = {127, 128, 255, 256};
        int[] lowest = {127, -128, -1, 0};
        for (int i = 0; i < 4; i++) {
            NamedFountains x = Due.dryTown(tanks[i]);
            x.sheet(0, 8, 1);
            x.book(0);
            edge.beyond(tanks[i] + " in 8 bits", x.write(0, 0, 0), lowest[i]);
        }
        NamedFountains y = withRow(40);
        y.book(0);
        edge.at("what was there is gone", y.write(0, 39, 0), y.on(39, 0));
        edge.names("Promise 31", "BEYOND: no such sheet.");
        refusesSheets("book", NamedFountains::book);
        edge.plain("Promise 31", "MISSING.");
        edge.at("at first", NamedFountains::new, x -> x.book(0), Due.MISSING);
        edge.at("sheet 3", Edge::rich, x -> x.book(3), Due.MISSING);
        edge.is("not a sheet of none", withRow(0).book(0), 0);
    }

    /** Pairs for a wife LOVED 20 by a sheet of 500 and this number. */
    private static int pairs(int then) {
        NamedFountains x = Edge.jets(500, 10);
        x.turn(0, Due.WIFE);
        x.sheet(0, 16, 2);
        x.write(0, 0, 500);
        x.write(0, 1, then);
        return x.read(0, 0);
    }

    private void read() {
        edge.names("Promise 32", "THE READER: numbers of a sheet are TANK ON 0, 1, 2, .. DAYS: how many pairs of a KIND and a"
            + " HIGH (1 to 40) of one make it just so.");
        // By 1 a day: a jet of 1, a wife of 1, 2 or 3, a bishop of 1, a boy of any height.
        edge.at("499", pairs(499), 45);
        // By 0 a day: none, since LOVED 20 takes but 1 from the 2 of a bishop of 1.
        edge.beyond("500", pairs(500), 0);
        // By 2: a jet of 2, a mayor of 1, a wife of 4 or 5, a basin of any height.
        edge.within("498", pairs(498), 44);
        // By 3: a jet of 3, a wife of 6 or 7, a bishop of 2.
        edge.within("497", pairs(497), 4);
        // By 39: a jet of 39, a bishop of 20. By 40: a jet of 40, a mayor of 20.
        edge.within("461", pairs(461), 2);
        edge.at("460", pairs(460), 2);
        // By 41: a bishop of 21. By 20: a jet of 20, a mayor of 10, a wife of 40 (41 would be no HIGH).
        edge.beyond("459", pairs(459), 1);
        edge.at("480", pairs(480), 3);
        edge.within("481", pairs(481), 4);
        // By 79: a bishop of 40; by 80: a mayor of 40; by 81: none.
        edge.within("421", pairs(421), 1);
        edge.at("420", pairs(420), 1);
        edge.beyond("419", pairs(419), 0);
    }

    private void readPairs() {
        int[] lengths = {0, 1};
        for (int n : lengths) {
            NamedFountains x = Edge.jets(500, 10);
            x.sheet(0, 16, n);
            x.book(0);
            edge.at("a sheet of " + n + " tells nothing", x.read(0, 0), 240);
        }
        NamedFountains x = Edge.jets(9999, 37);
        x.sheet(0, 64, 40);
        x.book(0);
        // By 37 day by day: a jet of 37, and a bishop of 19, who stays LOVED 20.
        edge.at("a sheet of forty", x.read(0, 0), 2);
        x.write(0, 39, 9999 - 37 * 39 + 1);
        edge.beyond("the last of forty is another", x.read(0, 0), 0);
        x.write(0, 39, 9999 - 37 * 39);
        edge.at("the last of forty is as it was", x.read(0, 0), 2);
        x.write(0, 0, 9998);
        edge.beyond("the first of forty is another", x.read(0, 0), 0);
        x.write(0, 0, 9999 + (1L << 32));
        edge.beyond("all bits of it count", x.read(0, 0), 0);
        NamedFountains small = Due.dryTown(200);
        small.fountain(Due.JET);
        small.sheet(0, 8, 1);
        small.book(0);
        edge.beyond("200 in 8 bits is another number", small.read(0, 0), 0);
        small.water(0, 127);
        small.book(0);
        edge.at("127 in 8 bits is the same", small.read(0, 0), 240);
        // Beside a jet of 3, by 20: a jet of 20, a mayor of 10, a wife of 40.
        NamedFountains second = Edge.jets(500, 3, 10);
        second.sheet(0, 16, 2);
        second.write(0, 0, 500);
        second.write(0, 1, 477);
        edge.within("of the second", second.read(0, 1), 3);
        edge.asks("it only asks", Edge::rich, y -> y.read(0, 0), 0);
    }

    private void readRefused() {
        edge.names("Promise 32", "BEYOND: no such sheet.");
        refusesSheets("read", (x, s) -> x.read(s, 0));
        edge.beyond("though there be no such one", Edge::rich, x -> x.read(4, 4), Due.BEYOND);
        edge.plain("Promise 32", "MISSING.");
        edge.at("at first", NamedFountains::new, x -> x.read(0, 0), Due.MISSING);
        edge.at("sheet 3", Edge::rich, x -> x.read(3, 0), Due.MISSING);
        edge.at("sheet 3, though there be no such one", Edge::rich, x -> x.read(3, 4), Due.MISSING);
        edge.names("Promise 32", "BEYOND: fountain.");
        NamedFountains eight = Edge.many(8);
        eight.sheet(0, 8, 0);
        edge.at("the first", eight.read(0, 0), 240);
        edge.within("the seventh", eight.read(0, 6), 240);
        edge.at("the eighth", eight.read(0, 7), 240);
        edge.beyond("a ninth", () -> {
            NamedFountains x = Edge.many(8);
            x.sheet(0, 8, 0);
            return x;
        }, x -> x.read(0, 8), Due.BEYOND);
        int[] nobody = {-1, 4, 8, Integer.MIN_VALUE, Integer.MAX_VALUE};
        for (int fountain : nobody) {
            edge.beyond("of " + fountain, Edge::rich, x -> x.read(0, fountain), Due.BEYOND);
        }
    }
}
