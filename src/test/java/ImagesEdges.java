/** Promises 33 to 37: image, undo, tear, count, status; and the 512 calls of an object. */
final class ImagesEdges {
    private static final int[] NOTHING = {Integer.MIN_VALUE, Integer.MAX_VALUE};
    private final Edge edge;

    ImagesEdges(Edge edge) {
        this.edge = edge;
    }

    void run() {
        image();
        undo();
        undoOfNone();
        tear();
        count();
        status();
        statusBeyond();
        everyCall();
    }

    /** A town at the most that all may be. */
    private static NamedFountains most() {
        NamedFountains x = Edge.many(8);
        for (int i = 0; i < 8; i++) {
            x.turn(i, i % 6);
            x.set(i, 1, 40);
            x.set(i, 2, 1);
            x.set(i, 3, 99);
            x.set(i, 4, 9999);
        }
        for (int what = 0; what < 3; what++) {
            x.water(what, 9999);
        }
        for (int w = 0; w < 8; w++) {
            x.week(w, 0, 99);
            x.week(w, 1, 1);
        }
        return x;
    }

    /** A town at the least that all may be. */
    private static NamedFountains least() {
        NamedFountains x = Due.dryTown(0);
        x.water(2, 0);
        return x;
    }

    private static void overwrite(NamedFountains x) {
        for (int i = x.count(0); i < 8; i++) {
            x.fountain(Due.BOY);
        }
        for (int i = 0; i < 8; i++) {
            x.turn(i, Due.WIFE);
            x.set(i, 1, 2);
            x.set(i, 2, i % 2);
            x.set(i, 3, 3);
            x.set(i, 4, 4);
        }
        for (int w = 0; w < 8; w++) {
            x.week(w, 0, 50);
            x.week(w, 1, w % 2);
        }
        x.days(13);
        for (int what = 0; what < 3; what++) {
            x.water(what, 77);
        }
    }

    private void image() {
        edge.names("Promise 33", "All that section 1 tells (THE TAPE not) is kept: 1.");
        edge.at("of a new town", new NamedFountains().image(), 1);
        edge.within("of a town with something of everything", Edge.rich().image(), 1);
        edge.beyond("another time", imaged(Edge.rich()).image(), 1);
        NamedFountains[] towns = {most(), least(), new NamedFountains(), fourOf(Edge.rich())};
        NamedFountains[] alike = {most(), least(), new NamedFountains(), fourOf(Edge.rich())};
        for (int i = 0; i < towns.length; i++) {
            towns[i].image();
            overwrite(towns[i]);
            towns[i].undo();
            towns[i].tear();
            alike[i].tear();
            edge.alike("town " + i + " is as it was", towns[i], alike[i]);
        }
        NamedFountains x = Edge.rich();
        x.image();
        x.feed(0x20, 1);
        x.sheet(3, 8, 7);
        x.write(0, 0, 99);
        x.undo();
        edge.is("THE TAPE isn't kept", x.count(1), 11);
        edge.is("sheets aren't kept", x.write(0, 0, 0), 99);
        edge.is("a sheet that was MISSING", x.book(3), 7);
    }

    private static NamedFountains imaged(NamedFountains x) {
        x.image();
        return x;
    }

    /** Without the tape, which the portrait reads into the town. */
    private static NamedFountains fourOf(NamedFountains x) {
        x.wipe();
        return x;
    }

    private void undo() {
        edge.names("Promise 34", "It becomes what was kept latest (which stays): how many FOUNTAINS.");
        edge.at("none", undone(0, 8), 0);
        edge.within("one", undone(1, 8), 1);
        edge.within("seven", undone(7, 8), 7);
        edge.at("eight", undone(8, 8), 8);
        NamedFountains x = new NamedFountains();
        x.water(0, 1);
        x.image();
        x.water(0, 2);
        x.fountain(Due.JET);
        x.image();
        x.water(0, 3);
        x.fountain(Due.JET);
        edge.at("the latest of two", x.undo(), 1);
        edge.at("its TANK", x.now(2), 2);
        edge.within("it stays", x.undo(), 1);
        x.set(0, 1, 33);
        x.water(0, 5);
        edge.beyond("it stays as it was", x.undo(), 1);
        edge.beyond("its HIGH", x.of(0, 1), 10);
        edge.beyond("its TANK again", x.now(2), 2);
        NamedFountains fresh = imaged(Edge.many(1));
        fresh.fountain(Due.BISHOP);
        fresh.set(1, 1, 33);
        fresh.set(1, 2, 1);
        fresh.set(1, 3, 3);
        fresh.set(1, 4, 4);
        fresh.undo();
        fresh.fountain(Due.WIFE);
        int[] first = {Due.WIFE, 10, 0, 20, 0};
        for (int what = 0; what < 5; what++) {
            edge.is("one more behind undo(), what " + what, fresh.of(1, what), first[what]);
        }
        edge.beyond("number 1 behind undo()", () -> {
            NamedFountains y = imaged(Edge.many(1));
            y.fountain(Due.BISHOP);
            y.undo();
            return y;
        }, y -> y.of(1, 0), Due.BEYOND);
    }

    private static int undone(int kept, int then) {
        NamedFountains x = imaged(Edge.many(kept));
        for (int i = kept; i < then; i++) {
            x.fountain(Due.BOY);
        }
        int answer = x.undo();
        return answer == x.count(0) ? answer : -1;
    }

    private void undoOfNone() {
        edge.names("Promise 34", "NONE: nothing is kept.");
        edge.beyond("at first", () -> Edge.many(3), NamedFountains::undo, Due.NONE);
        edge.at("one image", imaged(Edge.many(3)).undo(), 3);
        edge.within("two images", imaged(imaged(Edge.many(3))).undo(), 3);
        edge.beyond("torn", () -> {
            NamedFountains x = imaged(Edge.many(3));
            x.tear();
            return x;
        }, NamedFountains::undo, Due.NONE);
    }

    private void tear() {
        edge.names("Promise 35", "Nothing is kept: 1 if something was, else 0.");
        edge.beyond("nothing was", Edge.many(3).tear(), 0);
        edge.at("an image was", imaged(Edge.many(3)).tear(), 1);
        NamedFountains x = imaged(imaged(Edge.many(3)));
        edge.within("two images were", x.tear(), 1);
        edge.at("nothing is then", x.tear(), 0);
        edge.at("nothing to undo", x.undo(), Due.NONE);
        x.fountain(Due.JET);
        edge.within("one may keep again", x.image(), 1);
        edge.within("that is what was kept", x.undo(), 4);
        edge.at("an image of no fountains is something", imaged(new NamedFountains()).tear(), 1);
    }

    private void count() {
        edge.names("Promise 36", "0 FOUNTAINS, 1 bytes of THE TAPE, 2 those that are OFF, 3 STOOPED of all together.");
        for (int what = 0; what < 4; what++) {
            int one = what;
            edge.at("at first, what " + what, new NamedFountains().count(what), 0);
            edge.asks("what " + what, Edge::rich, x -> x.count(one) >= 0 ? 1 : 0, 1);
        }
        edge.within("seven FOUNTAINS", Edge.many(7).count(0), 7);
        edge.at("eight FOUNTAINS", Edge.many(8).count(0), 8);
        edge.within("119 bytes", Edge.taped(119).count(1), 119);
        edge.at("120 bytes", Edge.taped(120).count(1), 120);
        NamedFountains x = Edge.many(8);
        x.set(0, 2, 1);
        edge.within("the first is OFF", x.count(2), 1);
        x.set(7, 2, 1);
        edge.within("the first and the last are", x.count(2), 2);
        edge.at("all are", most().count(2), 8);
        x.set(0, 4, 3);
        x.set(7, 4, 4);
        edge.within("STOOPED of the first and the last", x.count(3), 7);
        edge.at("STOOPED at most", most().count(3), 79992);
        NamedFountains stooped = most();
        stooped.set(0, 2, 0);
        stooped.week(0, 0, 0);
        stooped.water(0, 0);
        stooped.days(1);
        edge.beyond("STOOPED is held", stooped.count(3), 79992);
        edge.names("Promise 36", "BEYOND: another what.");
        edge.at("what 0", new NamedFountains().count(0), 0);
        edge.within("what 1", new NamedFountains().count(1), 0);
        edge.within("what 2", new NamedFountains().count(2), 0);
        edge.at("what 3", new NamedFountains().count(3), 0);
        edge.beyond("what -1", Edge::rich, y -> y.count(-1), Due.BEYOND);
        edge.beyond("what 4", Edge::rich, y -> y.count(4), Due.BEYOND);
        for (int what : NOTHING) {
            edge.beyond("what " + what, Edge::rich, y -> y.count(what), Due.BEYOND);
        }
    }

    private void status() {
        edge.names("Promise 37", "How many acts answered a finding ever (undo() takes none back): which -1: all, 0 to 6: BEYOND"
            + " to SIZE.");
        NamedFountains x = Edge.many(8);
        for (int which = -1; which < 7; which++) {
            edge.at("at first, " + which, x.status(which), 0);
        }
        x.now(10);
        edge.within("one BEYOND", x.status(0), 1);
        edge.within("one of all", x.status(-1), 1);
        twice(() -> x.fountain(0));
        twice(() -> x.as(0, 1));
        twice(() -> x.undo());
        twice(() -> x.lays(0));
        twice(() -> x.sheet(0, 8, -1));
        int[] told = {1, 2, 2, 2, 0, 2, 2};
        for (int which = 0; which < 7; which++) {
            edge.within("each of its own, " + which, x.status(which), told[which]);
        }
        edge.at("all", x.status(-1), 11);
        NamedFountains late = Edge.late(99999);
        late.days(1);
        edge.at("STATE", late.status(4), 1);
        edge.at("STATE is of all", late.status(-1), 1);
        x.image();
        x.now(10);
        x.undo();
        edge.beyond("undo() takes none back", x.status(-1), 12);
        x.tear();
        x.wipe();
        x.town();
        edge.beyond("a FAULT is none", x.status(-1), 12);
        edge.beyond("a number in longs", x.write(0, 0, 0), Due.MISSING);
        edge.beyond("counts too", x.status(5), 3);
    }

    private static void twice(Runnable act) {
        act.run();
        act.run();
    }

    private void statusBeyond() {
        edge.names("Promise 37", "BEYOND (counted from then on): another one.");
        for (int which = -1; which < 7; which++) {
            int one = which;
            edge.at("status(" + which + ")", Edge.rich().status(which), which <= 0 ? 1 : 0);
            edge.asks("status(" + which + ") only asks", Edge::rich, x -> x.status(one) >= 0 ? 1 : 0, 1);
        }
        edge.beyond("status(-2)", Edge::rich, x -> x.status(-2), Due.BEYOND);
        edge.beyond("status(7)", Edge::rich, x -> x.status(7), Due.BEYOND);
        for (int which : NOTHING) {
            edge.beyond("status(" + which + ")", Edge::rich, x -> x.status(which), Due.BEYOND);
        }
        NamedFountains x = new NamedFountains();
        edge.within("none before", x.status(0), 0);
        edge.beyond("another one", x.status(7), Due.BEYOND);
        edge.within("one from then on", x.status(0), 1);
        edge.within("one of all from then on", x.status(-1), 1);
    }

    /** "An object is used for at most 512 calls": the last of them answers as the first. */
    private void everyCall() {
        NamedFountains x = new NamedFountains();
        for (int i = 0; i < 510; i++) {
            x.now(10);
        }
        edge.within("call 511", x.status(0), 510);
        edge.at("call 512", x.status(-1), 510);
        NamedFountains y = new NamedFountains();
        for (int i = 0; i < 511; i++) {
            y.days(100);
        }
        edge.at("call 512 behind 511 of a hundred days", y.now(0), 51100);
    }
}
