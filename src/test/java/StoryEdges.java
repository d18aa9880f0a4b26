/** The parts "What it is" and "Not promised": the story as the terms make it, and what is left free. */
final class StoryEdges {
    private static final String STORY = "What it is";
    private static final String FREE = "Not promised";
    private static final int KINDS = 6;
    private static final int CALLS = 512;

    private final Edge edge;

    StoryEdges(Edge edge) {
        this.edge = edge;
    }

    void run() {
        somebody();
        wife();
        frost();
        favourites();
        committee();
        boy();
        townAndDays();
        whatIsAsked();
        whatItWas();
        calls();
        notPromised();
    }

    private void somebody() {
        edge.names(STORY, "Fountains are put down to be forgotten: there's a town that has them where other people have"
            + " graves, each is somebody, let go up, at a height by what he was, and comes down all day, so it's never"
            + " quiet, a mayor is forty feet,");
        edge.within("a mayor of 39", Edge.one(Due.MAYOR, 39, 0, 20, 0).of(0, 1), 39);
        edge.at("a mayor of 40", Edge.one(Due.MAYOR, 40, 0, 20, 0).of(0, 1), 40);
        edge.beyond("a mayor of 41", () -> Edge.one(Due.MAYOR, 40, 0, 20, 0), x -> x.set(0, 1, 41), Due.BEYOND);
        edge.at("never quiet with water for 400 days", Edge.jets(400, 1).quiet(), Due.NONE);
    }

    private void wife() {
        edge.plain(STORY, "one hears a wife at night, from the market, under all the rest, a thin one, in a basin like a"
            + " plate,");
        edge.is("a wife of 20 is heard", Edge.one(Due.WIFE, 20, 0, 20, 0).of(0, 6), 15);
        edge.is("a jet of 20 is louder", Edge.one(Due.JET, 20, 0, 20, 0).of(0, 6), 20);
        edge.is("she uses half", Edge.one(Due.WIFE, 20, 0, 20, 0).of(0, 5), 10);
    }

    /** The terms turn none off for frost: they halve what is used. */
    private void frost() {
        edge.plain(STORY, "they're turned off for frost and it's a very bad week,");
        NamedFountains x = Edge.one(Due.JET, 10, 0, 20, 1);
        edge.is("what a jet of 10 uses", x.of(0, 5), 5);
        edge.is("none is off behind a week of it", x.on(7, 2), 0);
    }

    private void favourites() {
        edge.plain(STORY, "children have each a favourite to be wet by,");
        NamedFountains x = Edge.many(2);
        x.set(1, 3, 99);
        edge.is("the favourite", x.of(1, 3), 99);
        edge.is("the other one", x.of(0, 3), 20);
    }

    /** One of each kind by their numbers, in a drought that no rain ends. */
    private static NamedFountains drought() {
        NamedFountains x = Due.dryTown(9000);
        x.water(1, 9999);
        for (int kind = 0; kind < KINDS; kind++) {
            x.fountain(kind);
        }
        return x;
    }

    private void committee() {
        edge.plain(STORY, "there was a drought and it was asked which, a committee went round with a key, they'd stand,"
            + " with their hats off, and he would give it the half turn, it would stoop, like a person going in at a"
            + " low door,");
        NamedFountains x = drought();
        x.days(1);
        edge.is("the jet, least of two that give way alike, is off first", x.now(7), 1);
        for (int day = 1; day < KINDS; day++) {
            int which = x.next();
            edge.is("it isn't off", x.of(which, 2), 0);
            x.days(1);
            edge.is("then it is off", x.of(which, 2), 1);
            edge.is("it has stooped", x.of(which, 4), 1);
            edge.is("one more a day", x.count(2), day + 1);
        }
    }

    private void boy() {
        edge.plain(STORY, "they had left till last the one in the stable yard, no name, that just wells, it doesn't go up"
            + " at all, it lips over, a boy's, it was thought, and he'd his hand on the cock, and it took hold of his"
            + " finger;");
        NamedFountains x = drought();
        edge.is("all but the boy are off", x.on(5, 2), 31);
        edge.is("the boy is last", x.off(5), 6);
        x.days(6);
        edge.is("and uses water still", x.of(5, 5), 1);
        edge.is("and is heard still", x.of(5, 6) > 0 ? 1 : 0, 1);
    }

    private void townAndDays() {
        edge.plain(STORY, "fountains of kinds and heights, a tank, rain and frost by the year, a committee that turns one"
            + " off a day in a drought, and on again; days;");
        NamedFountains x = drought();
        x.days(2);
        edge.is("two days, two off", x.count(2), 2);
        x.water(1, 0);
        x.water(2, 0);
        x.days(1);
        edge.is("one on again", x.count(2), 1);
        x.days(1);
        edge.is("and the other", x.count(2), 0);
        edge.is("days", x.now(0), 4);
        x.week(1, 0, 9);
        x.week(1, 1, 1);
        x.days(3);
        edge.is("the rain of week 1", x.now(5), 9);
        edge.is("its frost", x.now(6), 1);
        x.days(56);
        edge.is("the rain a year later", x.now(5), 9);
        edge.is("the frost a year later", x.now(6), 1);
    }

    private void whatIsAsked() {
        edge.plain(STORY, "how much water there is when, who goes and who is off when, what is heard, whose turn is next,"
            + " how long the tank lasts, how high one may be, how loved one must be, which one had best be turned off,"
            + " as what kind one goes longest, how much rain is enough,");
        NamedFountains x = Edge.jets(100, 10);
        edge.is("water in 3 days", x.on(3, 0), 70);
        edge.is("off in 10 days", x.on(10, 2), 0);
        edge.is("off in 11 days", x.on(11, 2), 1);
        edge.is("heard in 10 days", x.on(10, 1), 10);
        edge.is("heard in 11 days", x.on(11, 1), 0);
        edge.is("whose turn", x.next(), 0);
        edge.is("how long the tank lasts", x.falls(0), 10);
        edge.is("how high for 10 days", x.high(0, 10), 10);
        edge.is("as what kind", x.kind(0), Due.BOY);
        edge.is("how much for 12 days", x.enough(12), 120);
        edge.is("which one", Edge.jets(100, 5, 10).best(1), 1);
        NamedFountains rivals = Edge.jets(100, 10, 10);
        rivals.water(1, 150);
        edge.is("how loved, beside one that is loved 20", rivals.loved(0, 1), 21);
        NamedFountains dry = Due.dryTown(0);
        dry.days(7);
        dry.fountain(Due.JET);
        edge.is("in which week rain helps", dry.rain(1), 1);
    }

    private void whatItWas() {
        edge.plain(STORY, "what a fountain was by how the tank stood; a town told in a text.");
        NamedFountains x = Edge.jets(100, 10);
        x.sheet(0, 64, 2);
        x.book(0);
        // A jet of 10, a mayor of 5, a wife of 20 or 21 use ten.
        edge.is("what it was", x.read(0, 0), 4);
        edge.is("a text", Due.town(x, "wife high 7"), 1);
        edge.is("the wife", x.of(1, 1), 7);
    }

    private void calls() {
        edge.names(STORY, "An object is used for at most 512 calls after it has been made; what later calls answer is"
            + " free.");
        NamedFountains x = new NamedFountains();
        for (int call = 1; call < CALLS - 1; call++) {
            x.now(-1);
        }
        edge.within("the 511th", x.fountain(Due.BOY), 0);
        edge.at("the 512th", x.status(-1), CALLS - 2);
        x.status(-1);
        edge.beyond("the 513th ends, whatever it answers", 1, 1);
    }

    private void notPromised() {
        edge.free(FREE, "How the state is held inside the object is free, as are the speed of each call, the text of"
            + " toString and the behaviour of equals and hashCode.");
        edge.free(FREE, "Use of one object from several threads at once is not promised to be safe.");
        edge.free(FREE, "Nothing is promised beyond the answers and state changes described above, and nothing about an"
            + " object after its 512th call.");
    }
}
