/** All that can be asked of an object, as a text, so that two objects can be held against each other. */
final class Portrait {
    /** Tells 8, 16 and 64 bits apart: their lowest bits of it are 1, 257 and 65793. */
    private static final long PROBE = 0x10101;

    private Portrait() {
    }

    /** Spends the object: its weeks, sheets and tape are overwritten by the asking. */
    static String of(NamedFountains x) {
        StringBuilder text = new StringBuilder();
        for (int what = 0; what < 4; what++) {
            text.append(x.count(what)).append(' ');
        }
        tellTown(x, text);
        for (int s = 0; s < 4; s++) {
            tellSheet(x, s, text);
        }
        // What is kept is told before the tape, since the text of the tape may change the town.
        int kept = x.undo();
        text.append("kept ").append(kept);
        if (kept >= 0) {
            tellTown(x, text);
        }
        return text.append("tape ").append(x.town()).append(' ').append(x.count(0)).toString();
    }

    private static void tellTown(NamedFountains x, StringBuilder text) {
        text.append("town");
        for (int what = 0; what < 10; what++) {
            text.append(' ').append(x.now(what));
        }
        for (int i = 0; i < x.count(0); i++) {
            text.append(", one");
            for (int what = 0; what < 5; what++) {
                text.append(' ').append(x.of(i, what));
            }
        }
        text.append(", weeks");
        for (int w = 0; w < 8; w++) {
            text.append(' ').append(x.week(w, 0, 0)).append(' ').append(x.week(w, 1, 0));
        }
        text.append('\n');
    }

    private static void tellSheet(NamedFountains x, int s, StringBuilder text) {
        text.append("sheet ").append(s);
        int has = x.copy(s, 0, s, 0, 0) < 0 ? 0 : 41;
        text.append(has == 0 ? " missing" : "");
        for (int i = 0; i < has; i++) {
            int before = x.status(0);
            long was = x.write(s, i, PROBE);
            if (x.status(0) > before) {
                break;
            }
            text.append(' ').append(was).append('/').append(x.write(s, i, 0));
        }
        // Only this tells the bits of a sheet of no numbers.
        for (int t = 0; t < s; t++) {
            text.append(" as ").append(t).append(' ').append(x.copy(s, 0, t, 0, 0));
        }
        text.append('\n');
    }
}
