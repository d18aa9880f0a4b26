/** Promises 27 to 32: sheet, write, copy, lays, book, read. */
public final class SheetsTest {
    private static final Due DUE = new Due("SheetsTest");

    public static void main(String[] args) {
        sheet();
        write();
        bits();
        copy();
        copyWrong();
        lays();
        book();
        read();
        DUE.end();
    }

    private static void sheet() {
        NamedFountains x = new NamedFountains();
        DUE.is("sheet(0, 8, 40)", x.sheet(0, 8, 40), 40);
        DUE.is("sheet(1, 16, 0)", x.sheet(1, 16, 0), 0);
        DUE.is("sheet(2, 64, 1)", x.sheet(2, 64, 1), 1);
        DUE.is("sheet(3, 0, 40)", x.sheet(3, 0, 40), 0);
        DUE.is("a sheet of none isn't missing", x.lays(1), 0);
        DUE.is("3 is missing", x.lays(3), Due.MISSING);
        x.write(0, 39, 5);
        DUE.is("laid anew", x.sheet(0, 8, 40), 40);
        DUE.is("all 0", x.write(0, 39, 5), 0);
        DUE.is("laid shorter", x.sheet(0, 8, 2), 2);
        DUE.is("laid longer", x.sheet(0, 8, 40), 40);
        DUE.is("all 0 again", x.write(0, 39, 5), 0);
        int[][] beyond = {{-1, 8, 1}, {4, 8, 1}, {0, 1, 1}, {0, 32, 1}, {0, -8, 1}, {0, 7, -1}, {4, 8, -1},
            {0, 8, 41}, {0, 0, 41}, {0, 64, Integer.MAX_VALUE}};
        for (int[] b : beyond) {
            DUE.is("sheet(" + b[0] + ", " + b[1] + ", " + b[2] + ")", x.sheet(b[0], b[1], b[2]), Due.BEYOND);
        }
        DUE.is("SIZE", x.sheet(0, 8, -1), Due.SIZE);
        DUE.is("SIZE with bits 0", x.sheet(0, 0, -1), Due.SIZE);
        DUE.is("SIZE of the least", x.sheet(0, 16, Integer.MIN_VALUE), Due.SIZE);
        DUE.is("BEYOND told", x.status(0), beyond.length);
        DUE.is("SIZE told", x.status(6), 3);
        DUE.is("it stays as it was", x.write(0, 39, 0), 5);
        DUE.is("taken away", x.sheet(0, 0, 3), 0);
        DUE.is("missing then", x.write(0, 0, 0), Due.MISSING);
    }

    private static void write() {
        NamedFountains x = new NamedFountains();
        DUE.is("BEYOND: no such sheet", x.write(-1, 0, 0), Due.BEYOND);
        DUE.is("BEYOND: no such sheet above", x.write(4, 0, 0), Due.BEYOND);
        DUE.is("MISSING before the number is asked", x.write(0, -1, 0), Due.MISSING);
        x.sheet(0, 64, 3);
        DUE.is("write(0, 0, 7)", x.write(0, 0, 7), 0);
        DUE.is("write(0, 0, 8)", x.write(0, 0, 8), 7);
        DUE.is("write(0, 2, 9)", x.write(0, 2, 9), 0);
        DUE.is("write(0, 1, 0)", x.write(0, 1, 0), 0);
        DUE.is("BEYOND: number 3", x.write(0, 3, 0), Due.BEYOND);
        DUE.is("BEYOND: number -1", x.write(0, -1, 0), Due.BEYOND);
        DUE.is("number 0", x.write(0, 0, 0), 8);
        DUE.is("number 2", x.write(0, 2, 0), 9);
        x.sheet(1, 8, 0);
        DUE.is("BEYOND: a sheet of none", x.write(1, 0, 0), Due.BEYOND);
        DUE.is("BEYOND told", x.status(0), 5);
        DUE.is("MISSING told", x.status(5), 1);
        x.write(0, 0, Due.FULL);
        DUE.is("a number that looks like a finding", x.write(0, 0, 0), Due.FULL);
        DUE.is("it isn't one", x.status(1), 0);
    }

    private static void bits() {
        NamedFountains x = new NamedFountains();
        x.sheet(0, 8, 1);
        x.sheet(1, 16, 1);
        x.sheet(2, 64, 1);
        long[] numbers = {127, 128, 255, 256, 32767, 32768, 65535, 65536, -1, -129, Long.MAX_VALUE, Long.MIN_VALUE,
            0x123456789ABCDEFL};
        for (long v : numbers) {
            for (int s = 0; s < 3; s++) {
                x.write(s, 0, v);
            }
            DUE.is(v + " in 8 bits", x.write(0, 0, 0), (byte) v);
            DUE.is(v + " in 16 bits", x.write(1, 0, 0), (short) v);
            DUE.is(v + " in 64 bits", x.write(2, 0, 0), v);
        }
    }

    private static NamedFountains withRow(int n) {
        NamedFountains x = new NamedFountains();
        x.sheet(0, 16, n);
        x.sheet(1, 16, n);
        for (int i = 0; i < n; i++) {
            x.write(0, i, i + 1);
        }
        return x;
    }

    private static void rowIs(NamedFountains x, String what, int s, int... want) {
        for (int i = 0; i < want.length; i++) {
            DUE.is(what + ", number " + i, x.write(s, i, want[i]), want[i]);
        }
    }

    private static void copy() {
        NamedFountains x = withRow(5);
        DUE.is("copy(0, 1, 1, 2, 3)", x.copy(0, 1, 1, 2, 3), 3);
        rowIs(x, "to another", 1, 0, 0, 2, 3, 4);
        rowIs(x, "the one it came from", 0, 1, 2, 3, 4, 5);
        DUE.is("copy(0, 0, 0, 1, 4)", x.copy(0, 0, 0, 1, 4), 4);
        rowIs(x, "up over itself", 0, 1, 1, 2, 3, 4);
        DUE.is("copy(0, 2, 0, 0, 3)", x.copy(0, 2, 0, 0, 3), 3);
        rowIs(x, "down over itself", 0, 2, 3, 4, 3, 4);
        DUE.is("copy(0, 0, 1, 0, 5)", x.copy(0, 0, 1, 0, 5), 5);
        rowIs(x, "whole", 1, 2, 3, 4, 3, 4);
        DUE.is("none from the end", x.copy(0, 5, 1, 5, 0), 0);
        DUE.is("no finding", x.status(-1), 0);
    }

    private static void copyWrong() {
        NamedFountains x = withRow(5);
        x.sheet(2, 8, 5);
        DUE.is("no such sheet", x.copy(-1, 0, 1, 0, 1), Due.BEYOND);
        DUE.is("no such sheet to", x.copy(0, 0, 4, 0, 1), Due.BEYOND);
        DUE.is("no such sheet, though one is missing", x.copy(3, 0, 4, 0, 1), Due.BEYOND);
        DUE.is("one is missing", x.copy(3, 0, 0, 0, 1), Due.MISSING);
        DUE.is("the other is missing", x.copy(0, -1, 3, 0, 1), Due.MISSING);
        DUE.is("of other bits", x.copy(0, 0, 2, 0, 1), Due.KIND);
        DUE.is("of other bits before all numbers", x.copy(0, -1, 2, 9, -1), Due.KIND);
        int max = Integer.MAX_VALUE;
        int min = Integer.MIN_VALUE;
        int[][] wrong = {{-1, 0, 1}, {0, -1, 1}, {0, 0, -1}, {0, 0, 6}, {1, 0, 5}, {0, 1, 5}, {6, 0, 0}, {0, 6, 0},
            {max, 0, max}, {0, max, max}, {max, max, max}, {min, 0, 0}, {0, min, 0}, {0, 0, min}, {1, 1, max}};
        for (int[] w : wrong) {
            DUE.is("copy(0, " + w[0] + ", 1, " + w[1] + ", " + w[2] + ")", x.copy(0, w[0], 1, w[1], w[2]), Due.BEYOND);
        }
        x.sheet(1, 16, 3);
        DUE.is("the other is too short", x.copy(0, 0, 1, 0, 4), Due.BEYOND);
        DUE.is("the one is too short", x.copy(1, 0, 0, 0, 4), Due.BEYOND);
        rowIs(x, "nothing changed", 0, 1, 2, 3, 4, 5);
        DUE.is("BEYOND told", x.status(0), 3 + wrong.length + 2);
        DUE.is("MISSING told", x.status(5), 2);
        DUE.is("KIND told", x.status(2), 2);
    }

    private static void lays() {
        NamedFountains x = new NamedFountains();
        DUE.is("no such sheet", x.lays(4), Due.BEYOND);
        DUE.is("no such sheet below", x.lays(-1), Due.BEYOND);
        DUE.is("MISSING", x.lays(0), Due.MISSING);
        x.sheet(0, 64, 10);
        long[] numbers = {99, 100, -1, 0, Long.MIN_VALUE, 1L << 32, 50, 7, 8, 9};
        for (int i = 0; i < numbers.length; i++) {
            x.write(0, i, numbers[i]);
        }
        DUE.is("those that are 0 to 99 and stand for a week", x.lays(0), 4);
        int[] rain = {99, 8, 13, 0, 10, 15, 50, 7};
        for (int w = 0; w < 8; w++) {
            DUE.is("RAIN of " + w, x.week(w, 0, rain[w]), rain[w]);
        }
        x.sheet(0, 8, 2);
        DUE.is("a short one", x.lays(0), 2);
        DUE.is("RAIN of 1", x.week(1, 0, 1), 0);
        DUE.is("RAIN of 2 stays", x.week(2, 0, 1), 13);
    }

    private static void book() {
        NamedFountains x = Due.dryTown(500);
        x.fountain(Due.JET);
        x.set(0, 1, 40);
        DUE.is("no such sheet", x.book(4), Due.BEYOND);
        DUE.is("no such sheet below", x.book(-1), Due.BEYOND);
        DUE.is("MISSING", x.book(0), Due.MISSING);
        x.sheet(0, 16, 40);
        DUE.is("book(0)", x.book(0), 40);
        for (int i = 0; i < 40; i++) {
            DUE.is("TANK on " + i + " days", x.write(0, i, 0), Math.max(20, 500 - 40 * i));
        }
        x.sheet(1, 8, 3);
        DUE.is("book of 8 bits", x.book(1), 3);
        rowIs(x, "the lowest bits", 1, (byte) 500, (byte) 460, (byte) 420);
        x.sheet(2, 64, 0);
        DUE.is("book of none", x.book(2), 0);
        DUE.is("DAY stays", x.now(0), 0);
        DUE.is("TANK stays", x.now(2), 500);
    }

    private static void read() {
        NamedFountains x = Due.dryTown(500);
        DUE.is("no such sheet", x.read(4, 0), Due.BEYOND);
        DUE.is("no such sheet below", x.read(-1, 0), Due.BEYOND);
        DUE.is("MISSING before the fountain is asked", x.read(0, 0), Due.MISSING);
        x.sheet(0, 16, 2);
        DUE.is("no such fountain", x.read(0, 0), Due.BEYOND);
        x.fountain(Due.WIFE);
        DUE.is("no such fountain below", x.read(0, -1), Due.BEYOND);
        DUE.is("BEYOND told", x.status(0), 4);
        DUE.is("MISSING told", x.status(5), 1);
        DUE.is("none makes it 0", x.read(0, 0), 0);
        x.write(0, 0, 500);
        x.write(0, 1, 490);
        // 10 a day: a jet of 10, a mayor of 5, a wife of 20 or 21; a bishop's is odd with LOVED 20.
        DUE.is("pairs that use 10", x.read(0, 0), 4);
        x.write(0, 1, 498);
        // 2 a day: a jet of 2, a mayor of 1, a wife of 4 or 5, and a basin of any height.
        DUE.is("pairs that use 2", x.read(0, 0), 44);
        x.write(0, 1, 499);
        // 1 a day: a jet of 1, a wife of 1, 2 or 3, a bishop of 1, and a boy of any height.
        DUE.is("pairs that use 1", x.read(0, 0), 45);
        x.write(0, 1, 421);
        DUE.is("pairs that use 79: a bishop of 40", x.read(0, 0), 1);
        x.write(0, 1, 420);
        DUE.is("pairs that use 80: a mayor of 40", x.read(0, 0), 1);
        x.write(0, 0, 499);
        DUE.is("the tank is told wrong now", x.read(0, 0), 0);
        x.sheet(0, 8, 0);
        DUE.is("nothing told: all of them", x.read(0, 0), 240);
        x.sheet(0, 8, 1);
        x.write(0, 0, 500);
        DUE.is("500 doesn't go into 8 bits", x.read(0, 0), 0);
        x.water(0, 127);
        x.write(0, 0, 127);
        DUE.is("127 does", x.read(0, 0), 240);
        DUE.is("KIND stays", x.of(0, 0), Due.WIFE);
        DUE.is("HIGH stays", x.of(0, 1), 10);
    }
}
