import java.util.List;
import java.util.function.Supplier;
import java.util.function.ToLongFunction;

/**
 * Holds answers to the sentence of the document that asks for them. A sentence that names a boundary is tried at it,
 * just within it and just beyond it, and at the end no sentence of the document may be without a test.
 */
final class Edge {
    private static final int FINDINGS = 7;
    /** "What it is", "Terms", 37 promises and "Not promised". */
    private static final int PARTS = 40;

    private final Due due = new Due("EdgesTest");
    private final Document document;
    private String part = "";
    private String words = "";
    private boolean bounded = false;
    private boolean asksSomething = true;
    private int at = 0;
    private int within = 0;
    private int beyond = 0;
    private int told = 0;

    Edge(Document document) {
        this.document = document;
    }

    /** What is tried from here on belongs to this sentence, which names a boundary. */
    void names(String newPart, String newWords) {
        begin(newPart, newWords);
        bounded = true;
        asksSomething = true;
    }

    /** What is tried from here on belongs to this sentence, which names no boundary. */
    void plain(String newPart, String newWords) {
        begin(newPart, newWords);
        bounded = false;
        asksSomething = true;
    }

    /** This sentence leaves something free, so that there is nothing to try. */
    void free(String newPart, String newWords) {
        begin(newPart, newWords);
        bounded = false;
        asksSomething = false;
    }

    private void begin(String newPart, String newWords) {
        finish();
        part = newPart;
        words = newWords;
        at = 0;
        within = 0;
        beyond = 0;
        told = 0;
        due.is(part + " says \"" + words + "\"", document.name(part, words) ? 1 : 0, 1);
    }

    private void finish() {
        if (part.isEmpty()) {
            return;
        }
        if (asksSomething) {
            tell("something is tried", told > 0 ? 1 : 0, 1);
        }
        if (bounded) {
            tell("it is tried at the boundary", at > 0 ? 1 : 0, 1);
            tell("it is tried within the boundary", within > 0 ? 1 : 0, 1);
            tell("it is tried beyond the boundary", beyond > 0 ? 1 : 0, 1);
        }
    }

    void at(String call, long got, long want) {
        at++;
        tell("at: " + call, got, want);
    }

    void within(String call, long got, long want) {
        within++;
        tell("within: " + call, got, want);
    }

    void beyond(String call, long got, long want) {
        beyond++;
        tell("beyond: " + call, got, want);
    }

    void is(String call, long got, long want) {
        tell(call, got, want);
    }

    private void tell(String call, long got, long want) {
        told++;
        due.is(part + ", \"" + words + "\", " + call, got, want);
    }

    /** A call beyond the boundary answers the finding, which is counted once, and changes nothing. */
    void beyond(String call, Supplier<NamedFountains> town, ToLongFunction<NamedFountains> act, int finding) {
        beyond++;
        refused("beyond: " + call, town, act, finding);
    }

    /** A call at the boundary answers the finding, which is counted once, and changes nothing. */
    void at(String call, Supplier<NamedFountains> town, ToLongFunction<NamedFountains> act, int finding) {
        at++;
        refused("at: " + call, town, act, finding);
    }

    private void refused(String call, Supplier<NamedFountains> town, ToLongFunction<NamedFountains> act, int finding) {
        NamedFountains asked = town.get();
        NamedFountains other = town.get();
        tell(call, act.applyAsLong(asked), finding);
        for (int which = -1; which < FINDINGS; which++) {
            int more = which == -1 || which == Due.BEYOND - finding ? 1 : 0;
            tell(call + ", then status(" + which + ")", asked.status(which), other.status(which) + more);
        }
        alike(call, asked, other);
    }

    /** A call that only asks answers, tells no finding, and changes nothing. */
    void asks(String call, Supplier<NamedFountains> town, ToLongFunction<NamedFountains> act, long want) {
        NamedFountains asked = town.get();
        NamedFountains other = town.get();
        tell(call, act.applyAsLong(asked), want);
        tell(call + ", then status(-1)", asked.status(-1), other.status(-1));
        alike(call, asked, other);
    }

    /** Both objects are as one to all that can be asked, but for the findings counted; they are spent then. */
    void alike(String call, NamedFountains one, NamedFountains other) {
        String is = Portrait.of(one);
        String wanted = Portrait.of(other);
        boolean same = is.equals(wanted);
        tell(call + ", nothing else changes", same ? 1 : 0, 1);
        if (!same) {
            System.out.println("is:\n" + is + "\nwanted:\n" + wanted);
        }
    }

    void end() {
        finish();
        List<String> left = document.unnamed();
        for (String unnamed : left) {
            System.out.println("EdgesTest: no test names " + unnamed);
        }
        due.is("sentences that no test names", left.size(), 0);
        due.is("parts of the document", document.parts(), PARTS);
        due.end();
    }

    // ---- towns to begin with

    /** One of a kind alone in a new town. */
    static NamedFountains one(int kind, int high, int off, int loved, int cold) {
        NamedFountains x = new NamedFountains();
        x.fountain(kind);
        x.set(0, 1, high);
        x.set(0, 2, off);
        x.set(0, 3, loved);
        x.week(0, 1, cold);
        return x;
    }

    /** A dry town with jets of these heights. */
    static NamedFountains jets(int tank, int... highs) {
        NamedFountains x = Due.dryTown(tank);
        for (int i = 0; i < highs.length; i++) {
            x.fountain(Due.JET);
            x.set(i, 1, highs[i]);
        }
        return x;
    }

    /** A new town with so many jets. */
    static NamedFountains many(int fountains) {
        NamedFountains x = new NamedFountains();
        for (int i = 0; i < fountains; i++) {
            x.fountain(Due.JET);
        }
        return x;
    }

    /** Something of everything: four fountains, an image of three, a tape of 10 bytes, three sheets, a finding. */
    static NamedFountains rich() {
        NamedFountains x = new NamedFountains();
        x.fountain(Due.MAYOR);
        x.fountain(Due.BOY);
        x.fountain(Due.WIFE);
        x.set(0, 1, 33);
        x.set(1, 2, 1);
        x.set(2, 3, 77);
        x.set(2, 4, 5);
        x.week(1, 1, 1);
        x.image();
        x.fountain(Due.BISHOP);
        x.water(1, 150);
        x.days(9);
        x.water(0, 432);
        x.set(0, 2, 0);
        x.set(2, 2, 0);
        x.sheet(0, 8, 3);
        x.write(0, 1, -7);
        x.sheet(1, 16, 2);
        x.write(1, 0, 300);
        x.sheet(2, 64, 1);
        x.write(2, 0, 1L << 40);
        Due.feed(x, "jet high 7");
        x.now(-1);
        return x;
    }

    /** A town on a late DAY; only more calls than the 512 that are promised lead to the last ones. */
    static NamedFountains late(int day) {
        NamedFountains x = new NamedFountains();
        for (int i = 0; i < day / 100; i++) {
            x.days(100);
        }
        if (day % 100 != 0) {
            x.days(day % 100);
        }
        return x;
    }

    /** A tape of so many blanks. */
    static NamedFountains taped(int bytes) {
        NamedFountains x = new NamedFountains();
        for (int i = 0; i < bytes / 4; i++) {
            x.feed(0x20202020, 4);
        }
        for (int i = 0; i < bytes % 4; i++) {
            x.feed(0x20, 1);
        }
        return x;
    }
}
