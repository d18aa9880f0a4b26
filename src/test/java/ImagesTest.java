/** Promises 33 to 37: image, undo, tear, count, status. */
public final class ImagesTest {
    private static final Due DUE = new Due("ImagesTest");

    public static void main(String[] args) {
        image();
        latest();
        tear();
        count();
        status();
        DUE.end();
    }

    private static void image() {
        NamedFountains x = new NamedFountains();
        x.fountain(Due.MAYOR);
        x.set(0, 1, 33);
        x.set(0, 3, 44);
        x.set(0, 4, 55);
        x.fountain(Due.BOY);
        x.set(1, 2, 1);
        x.days(9);
        x.water(1, 11);
        x.water(2, 12);
        x.week(1, 0, 13);
        x.week(1, 1, 1);
        x.sheet(0, 8, 1);
        x.feed('a', 1);
        String before = all(x);
        DUE.is("image()", x.image(), 1);
        changeAll(x);
        DUE.is("undo()", x.undo(), 2);
        DUE.is("all is as it was", before.equals(all(x)) ? 1 : 0, 1);
        DUE.is("THE TAPE is not undone", x.count(1), 2);
        DUE.is("sheets are not undone", x.write(0, 0, 0), 77);
        DUE.is("findings are not undone", x.status(0), 1);
        changeAll(x);
        DUE.is("what was kept stays", x.undo(), 2);
        DUE.is("all is as it was again", before.equals(all(x)) ? 1 : 0, 1);
    }

    private static void changeAll(NamedFountains x) {
        x.turn(0, Due.WIFE);
        x.set(0, 1, 1);
        x.set(0, 2, 1);
        x.set(0, 3, 2);
        x.set(0, 4, 3);
        x.set(1, 2, 0);
        x.fountain(Due.JET);
        x.days(50);
        x.water(0, 1);
        x.water(1, 2);
        x.water(2, 3);
        for (int w = 0; w < 8; w++) {
            x.week(w, 0, 99);
            x.week(w, 1, 1 - x.week(w, 1, 0));
        }
        x.feed('b', 1);
        x.write(0, 0, 77);
        x.now(99);
    }

    private static String all(NamedFountains x) {
        StringBuilder text = new StringBuilder();
        for (int what = 0; what < 10; what++) {
            text.append(x.now(what)).append(' ');
        }
        for (int i = 0; i < x.count(0); i++) {
            for (int what = 0; what < 9; what++) {
                text.append(x.of(i, what)).append(' ');
            }
        }
        for (int w = 0; w < 8; w++) {
            int rain = x.week(w, 0, 0);
            int cold = x.week(w, 1, 0);
            x.week(w, 0, rain);
            x.week(w, 1, cold);
            text.append(rain).append(' ').append(cold).append(' ');
        }
        return text.toString();
    }

    private static void latest() {
        NamedFountains x = new NamedFountains();
        x.water(0, 1);
        x.image();
        x.water(0, 2);
        x.fountain(Due.JET);
        x.image();
        x.water(0, 3);
        DUE.is("undo()", x.undo(), 1);
        DUE.is("the latest", x.now(2), 2);
        x.water(0, 4);
        DUE.is("undo() again", x.undo(), 1);
        DUE.is("the latest again", x.now(2), 2);
        x.set(0, 1, 40);
        x.undo();
        DUE.is("what is kept isn't changed by what is done here", x.of(0, 1), 10);
    }

    private static void tear() {
        NamedFountains x = new NamedFountains();
        DUE.is("tear() of none", x.tear(), 0);
        x.image();
        x.image();
        DUE.is("tear()", x.tear(), 1);
        DUE.is("tear() again", x.tear(), 0);
        DUE.is("undo() of none", x.undo(), Due.NONE);
        DUE.is("NONE told", x.status(3), 1);
        x.fountain(Due.JET);
        DUE.is("image() again", x.image(), 1);
        DUE.is("undo()", x.undo(), 1);
    }

    private static void count() {
        NamedFountains x = new NamedFountains();
        for (int i = 0; i < 8; i++) {
            x.fountain(Due.JET);
            x.set(i, 4, 9999);
        }
        x.set(1, 2, 1);
        x.set(7, 2, 1);
        x.set(4, 2, 1);
        x.feed(0, 3);
        DUE.is("count(0)", x.count(0), 8);
        DUE.is("count(1)", x.count(1), 3);
        DUE.is("count(2)", x.count(2), 3);
        DUE.is("count(3)", x.count(3), 79992);
        DUE.is("count(-1)", x.count(-1), Due.BEYOND);
        DUE.is("count(4)", x.count(4), Due.BEYOND);
        DUE.is("BEYOND told", x.status(0), 2);
    }

    private static void status() {
        NamedFountains x = new NamedFountains();
        x.fountain(9);
        for (int i = 0; i < 8; i++) {
            x.fountain(Due.JET);
        }
        x.fountain(0);
        x.fountain(0);
        x.as(0, 1);
        x.undo();
        x.lays(0);
        x.lays(0);
        x.lays(0);
        x.sheet(0, 8, -1);
        int[] told = {1, 2, 1, 1, 0, 3, 1};
        for (int which = 0; which < 7; which++) {
            DUE.is("status(" + which + ")", x.status(which), told[which]);
        }
        DUE.is("status(-1)", x.status(-1), 9);
        DUE.is("status(7)", x.status(7), Due.BEYOND);
        DUE.is("status(-2)", x.status(-2), Due.BEYOND);
        DUE.is("counted from then on", x.status(0), 3);
        DUE.is("counted with all", x.status(-1), 11);
        x.image();
        x.now(-1);
        x.undo();
        DUE.is("undo() takes none back", x.status(-1), 12);
        x.tear();
        x.wipe();
        x.town();
        DUE.is("a FAULT is no finding", x.status(-1), 12);
    }
}
