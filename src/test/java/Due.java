/** Counts the calls whose answer is not the one that is due, and has some numbers that the tests share. */
final class Due {
    static final int BEYOND = -1000000001;
    static final int FULL = -1000000002;
    static final int KIND = -1000000003;
    static final int NONE = -1000000004;
    static final int STATE = -1000000005;
    static final int MISSING = -1000000006;
    static final int SIZE = -1000000007;

    static final int JET = 0;
    static final int MAYOR = 1;
    static final int WIFE = 2;
    static final int BASIN = 3;
    static final int BISHOP = 4;
    static final int BOY = 5;

    private final String test;
    private int asked = 0;
    private int wrong = 0;

    Due(String test) {
        this.test = test;
    }

    void is(String call, long got, long want) {
        asked++;
        if (got != want) {
            wrong++;
            System.out.println(test + ": " + call + " answered " + got + ", due is " + want);
        }
    }

    /** Says how it went, and ends the program with 1 if an answer was wrong. */
    void end() {
        System.out.println(test + ": " + asked + " answers, " + wrong + " not as due");
        if (wrong != 0) {
            System.exit(1);
        }
    }

    /** A town with rain in no week, no drought ever and never plenty, so that only fountains move the tank. */
    static NamedFountains dryTown(int tank) {
        NamedFountains x = new NamedFountains();
        for (int w = 0; w < 8; w++) {
            x.week(w, 0, 0);
        }
        x.water(0, tank);
        x.water(1, 0);
        x.water(2, 9999);
        return x;
    }

    /** Feeds a text byte by byte: how many bytes the tape has then. */
    static int feed(NamedFountains x, String text) {
        int has = 0;
        for (int i = 0; i < text.length(); i++) {
            has = x.feed(text.charAt(i), 1);
        }
        return has;
    }

    /** Feeds a text and has it told. */
    static int town(NamedFountains x, String text) {
        feed(x, text);
        return x.town();
    }
}
