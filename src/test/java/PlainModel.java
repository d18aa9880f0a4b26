import java.util.ArrayList;
import java.util.List;
import java.util.regex.Matcher;
import java.util.regex.Pattern;

/**
 * The document written down a second time, as slowly and literally as may be: kinds are classes under one another,
 * each ON is played on a copy, nothing is left early. ModelTest holds the class to it.
 */
final class PlainModel {
    abstract static class Kind {
        abstract int uses(Stone f);
        abstract int heard(Stone f);
        abstract int gains(Stone f, boolean cold);
        abstract int givesWay(Stone f);
    }

    static class Jet extends Kind {
        int uses(Stone f) { return f.high; }
        int heard(Stone f) { return f.high; }
        int gains(Stone f, boolean cold) { if (!f.off) { return 1; } return -1; }
        int givesWay(Stone f) { return f.high - f.loved; }
    }

    static class Mayor extends Jet {
        int uses(Stone f) { return super.uses(f) * 2; }
        int heard(Stone f) { return super.heard(f) + 10; }
        int gains(Stone f, boolean cold) { if (f.high > 30) { return 0; } return super.gains(f, cold); }
        int givesWay(Stone f) { return super.givesWay(f) - 20; }
    }

    static class Wife extends Jet {
        int uses(Stone f) { int half = super.uses(f) / 2; return half < 1 ? 1 : half; }
        int heard(Stone f) { return super.heard(f) / 2 + 5; }
        int gains(Stone f, boolean cold) { return 1; }
    }

    static class Basin extends Jet {
        int uses(Stone f) { return 2; }
        int heard(Stone f) { return 1; }
        int gains(Stone f, boolean cold) { return super.gains(f, cold) + (!cold ? 1 : 0); }
        int givesWay(Stone f) { return -200 - f.loved; }
    }

    static class Bishop extends Mayor {
        int uses(Stone f) { int less = super.uses(f) - f.loved / 20; return less < 0 ? 0 : less; }
        int gains(Stone f, boolean cold) { return super.gains(f, cold) - 1; }
        int givesWay(Stone f) { return super.givesWay(f) + 5; }
    }

    static class Boy extends Basin {
        int uses(Stone f) { return super.uses(f) - 1; }
        int heard(Stone f) { return super.heard(f) + f.loved / 10; }
        int gains(Stone f, boolean cold) { int g = super.gains(f, cold); return g < 0 ? 0 : g; }
        int givesWay(Stone f) { return super.givesWay(f) - 200; }
    }

    static final Kind[] KINDS = {new Jet(), new Mayor(), new Wife(), new Basin(), new Bishop(), new Boy()};
    static final String[] NAMES = {"jet", "mayor", "wife", "basin", "bishop", "boy"};

    static final class Stone {
        int kind;
        int high = 10;
        boolean off;
        int loved = 20;
        int stooped;

        Stone copy() {
            Stone f = new Stone();
            f.kind = kind;
            f.high = high;
            f.off = off;
            f.loved = loved;
            f.stooped = stooped;
            return f;
        }

        boolean boy() { return KINDS[kind] instanceof Boy; }
        int uses(boolean cold) { int u = off && !boy() ? 0 : KINDS[kind].uses(this); return cold ? u / 2 : u; }
        int heard() { return off && !boy() ? 0 : KINDS[kind].heard(this); }
        int gains(boolean cold) { return KINDS[kind].gains(this, cold); }
        int givesWay() { return KINDS[kind].givesWay(this); }

        void turnOff() {
            off = true;
            if (stooped < 9999) { stooped++; }
        }
    }

    static final class State {
        int day;
        int tank = 500;
        int drought = 200;
        int plenty = 600;
        int[] rain = {3, 8, 13, 5, 10, 15, 7, 12};
        int[] cold = new int[8];
        List<Stone> all = new ArrayList<>();

        State copy() {
            State s = new State();
            s.day = day;
            s.tank = tank;
            s.drought = drought;
            s.plenty = plenty;
            s.rain = rain.clone();
            s.cold = cold.clone();
            for (Stone f : all) { s.all.add(f.copy()); }
            return s;
        }

        State on(int n) {
            State s = copy();
            for (int i = 0; i < n; i++) { s.pass(); }
            return s;
        }

        int week() { return day / 7 % 8; }
        boolean frost() { return cold[week()] == 1; }

        int most() {
            int found = -1;
            for (int i = all.size() - 1; i >= 0; i--) {
                if (!all.get(i).off && (found < 0 || all.get(i).givesWay() >= all.get(found).givesWay())) { found = i; }
            }
            return found;
        }

        int least() {
            int found = -1;
            for (int i = all.size() - 1; i >= 0; i--) {
                if (all.get(i).off && (found < 0 || all.get(i).givesWay() <= all.get(found).givesWay())) { found = i; }
            }
            return found;
        }

        void pass() {
            tank += rain[week()];
            if (tank > 9999) { tank = 9999; }
            if (tank < drought) {
                if (most() >= 0) { all.get(most()).turnOff(); }
            } else if (tank >= plenty) {
                if (least() >= 0) { all.get(least()).off = false; }
            }
            for (Stone f : all) {
                int use = f.uses(frost());
                if (use <= tank) { tank -= use; } else if (!f.boy()) { f.turnOff(); }
            }
            for (Stone f : all) {
                f.loved += f.gains(frost());
                if (f.loved < 0) { f.loved = 0; }
                if (f.loved > 99) { f.loved = 99; }
            }
            day++;
        }

        int noise() { int s = 0; for (Stone f : all) { s += f.heard(); } return s; }
        int stooped() { int s = 0; for (Stone f : all) { s += f.stooped; } return s; }
        int offs() { int s = 0; for (int i = 0; i < all.size(); i++) { if (all.get(i).off) { s += 1 << i; } } return s; }
        int uses() { int s = 0; for (Stone f : all) { s += f.uses(frost()); } return s; }
    }

    State here = new State();
    State kept;
    StringBuilder tape = new StringBuilder();
    long[][] sheets = new long[4][];
    int[] bits = new int[4];
    int[] told = new int[7];

    int tell(int finding) {
        told[-1000000001 - finding]++;
        return finding;
    }

    static boolean in(int v, int low, int high) { return low <= v && v <= high; }
    boolean one(int f) { return in(f, 0, here.all.size() - 1); }

    int water(int what, int v) {
        if (!in(what, 0, 2) || !in(v, 0, 9999)) { return tell(Due.BEYOND); }
        int was = what == 0 ? here.tank : what == 1 ? here.drought : here.plenty;
        if (what == 0) { here.tank = v; }
        if (what == 1) { here.drought = v; }
        if (what == 2) { here.plenty = v; }
        return was;
    }

    int week(int week, int what, int v) {
        if (!in(week, 0, 7) || !in(what, 0, 1) || !in(v, 0, what == 0 ? 99 : 1)) { return tell(Due.BEYOND); }
        int was = what == 0 ? here.rain[week] : here.cold[week];
        if (what == 0) { here.rain[week] = v; } else { here.cold[week] = v; }
        return was;
    }

    int now(int what) {
        if (!in(what, 0, 9)) { return tell(Due.BEYOND); }
        int[] is = {here.day, here.week(), here.tank, here.drought, here.plenty, here.rain[here.week()],
            here.cold[here.week()], here.offs(), here.noise(), here.uses()};
        return is[what];
    }

    int fountain(int kind) {
        if (!in(kind, 0, 5)) { return tell(Due.BEYOND); }
        if (here.all.size() == 8) { return tell(Due.FULL); }
        Stone f = new Stone();
        f.kind = kind;
        here.all.add(f);
        return here.all.size() - 1;
    }

    int of(int fountain, int what) {
        if (!one(fountain) || !in(what, 0, 8)) { return tell(Due.BEYOND); }
        Stone f = here.all.get(fountain);
        int[] is = {f.kind, f.high, f.off ? 1 : 0, f.loved, f.stooped, f.uses(here.frost()), f.heard(),
            100 + f.gains(here.frost()), 1000 + f.givesWay()};
        return is[what];
    }

    int set(int fountain, int what, int v) {
        if (!one(fountain) || !in(what, 1, 4)) { return tell(Due.BEYOND); }
        int[] low = {0, 1, 0, 0, 0};
        int[] high = {0, 40, 1, 99, 9999};
        if (!in(v, low[what], high[what])) { return tell(Due.BEYOND); }
        int was = of(fountain, what);
        Stone f = here.all.get(fountain);
        if (what == 1) { f.high = v; }
        if (what == 2) { f.off = v == 1; }
        if (what == 3) { f.loved = v; }
        if (what == 4) { f.stooped = v; }
        return was;
    }

    int turn(int fountain, int kind) {
        if (!one(fountain) || !in(kind, 0, 5)) { return tell(Due.BEYOND); }
        int was = here.all.get(fountain).kind;
        here.all.get(fountain).kind = kind;
        return was;
    }

    int as(int fountain, int kind) {
        if (!one(fountain) || !in(kind, 0, 5)) { return tell(Due.BEYOND); }
        Stone f = here.all.get(fountain);
        return KINDS[kind].getClass().isInstance(KINDS[f.kind]) ? f.loved : tell(Due.KIND);
    }

    int next() { return here.most() < 0 ? tell(Due.NONE) : here.most(); }

    int days(int n) {
        if (!in(n, 1, 100)) { return tell(Due.BEYOND); }
        if (here.day + n > 99999) { return tell(Due.STATE); }
        here = here.on(n);
        return here.tank;
    }

    int on(int n, int what) {
        if (!in(n, 0, 400) || !in(what, 0, 2)) { return tell(Due.BEYOND); }
        State s = here.on(n);
        return new int[] {s.tank, s.noise(), s.offs()}[what];
    }

    int then(int fountain, int n, int what) {
        if (!one(fountain) || !in(n, 0, 400) || !in(what, 0, 2)) { return tell(Due.BEYOND); }
        Stone f = here.on(n).all.get(fountain);
        return new int[] {f.off ? 1 : 0, f.loved, f.stooped}[what];
    }

    int falls(int v) {
        if (!in(v, 0, 9999)) { return tell(Due.BEYOND); }
        State s = here.copy();
        for (int n = 0; n <= 400; n++, s = s.on(1)) { if (s.tank <= v) { return n; } }
        return tell(Due.NONE);
    }

    static int offOn(State from, int fountain) {
        State s = from.copy();
        for (int n = 0; n <= 400; n++, s = s.on(1)) { if (s.all.get(fountain).off) { return n; } }
        return 1000;
    }

    int off(int fountain) {
        if (!one(fountain)) { return tell(Due.BEYOND); }
        int n = offOn(here, fountain);
        return n == 1000 ? tell(Due.NONE) : n;
    }

    int quiet() {
        State s = here.copy();
        for (int n = 0; n <= 400; n++, s = s.on(1)) { if (s.noise() == 0) { return n; } }
        return tell(Due.NONE);
    }

    int best(int n) {
        if (!in(n, 1, 100)) { return tell(Due.BEYOND); }
        int found = -1;
        int tank = 0;
        for (int i = here.all.size() - 1; i >= 0; i--) {
            if (here.all.get(i).off) { continue; }
            State s = here.copy();
            s.all.get(i).turnOff();
            int then = s.on(n).tank;
            if (found < 0 || then >= tank) {
                found = i;
                tank = then;
            }
        }
        return found < 0 ? tell(Due.NONE) : found;
    }

    int high(int fountain, int n) {
        if (!one(fountain) || !in(n, 1, 100)) { return tell(Due.BEYOND); }
        int found = 0;
        for (int h = 1; h <= 40; h++) {
            State s = here.copy();
            s.all.get(fountain).high = h;
            if (s.on(n).all.get(fountain).stooped <= here.all.get(fountain).stooped) { found = h; }
        }
        return found == 0 ? tell(Due.NONE) : found;
    }

    int loved(int fountain, int n) {
        if (!one(fountain) || !in(n, 1, 100)) { return tell(Due.BEYOND); }
        int found = -1;
        for (int v = 99; v >= 0; v--) {
            State s = here.copy();
            s.all.get(fountain).loved = v;
            if (s.on(n).all.get(fountain).stooped <= here.all.get(fountain).stooped) { found = v; }
        }
        return found < 0 ? tell(Due.NONE) : found;
    }

    int kind(int fountain) {
        if (!one(fountain)) { return tell(Due.BEYOND); }
        int found = 5;
        int latest = -1;
        for (int k = 5; k >= 0; k--) {
            State s = here.copy();
            s.all.get(fountain).kind = k;
            int n = offOn(s, fountain);
            if (n >= latest) {
                latest = n;
                found = k;
            }
        }
        return found;
    }

    int rain(int n) {
        if (!in(n, 1, 100)) { return tell(Due.BEYOND); }
        int found = 7;
        int noise = -1;
        for (int w = 7; w >= 0; w--) {
            State s = here.copy();
            s.rain[w] = s.rain[w] + 10 > 99 ? 99 : s.rain[w] + 10;
            int then = s.on(n).noise();
            if (then >= noise) {
                noise = then;
                found = w;
            }
        }
        return found;
    }

    int enough(int n) {
        if (!in(n, 1, 60)) { return tell(Due.BEYOND); }
        for (int t = 0; t <= 9990; t += 10) {
            State s = here.copy();
            s.tank = t;
            if (s.on(n).stooped() <= here.stooped()) { return t; }
        }
        return tell(Due.NONE);
    }

    int rule(int n) {
        if (!in(n, 1, 100)) { return tell(Due.BEYOND); }
        int found = 1000;
        int stooped = Integer.MAX_VALUE;
        for (int d = 1000; d >= 0; d -= 50) {
            State s = here.copy();
            s.drought = d;
            int then = s.on(n).stooped();
            if (then <= stooped) {
                stooped = then;
                found = d;
            }
        }
        return found;
    }

    int feed(int bytes, int n) {
        if (!in(n, 1, 4)) { return tell(Due.BEYOND); }
        if (tape.length() + n > 120) { return tell(Due.FULL); }
        for (int i = n; i > 0; i--) { tape.append((char) ((bytes >> 8 * (i - 1)) & 0xFF)); }
        return tape.length();
    }

    int wipe() {
        int had = tape.length();
        tape.setLength(0);
        return had;
    }

    private static final Pattern TOKEN = Pattern.compile("[a-z]+|[0-9]+|[^ ]");

    /** By the states of a small machine: what may stand next is a letter of the text "next". */
    int town() {
        String text = tape.toString();
        tape.setLength(0);
        State s = here.copy();
        Matcher m = TOKEN.matcher(text);
        String next = "item";
        String number = "";
        int week = 0;
        int items = 0;
        while (m.find()) {
            String t = m.group();
            int fault = -1 - m.start();
            boolean digits = t.matches("[0-9]+");
            java.math.BigInteger big = digits ? new java.math.BigInteger(t) : java.math.BigInteger.ZERO;
            int v = big.bitLength() > 20 ? 1000000 : big.intValue();
            Stone last = s.all.isEmpty() ? null : s.all.get(s.all.size() - 1);
            if (next.equals("item")) {
                int kind = java.util.Arrays.asList(NAMES).indexOf(t);
                if (kind >= 0) {
                    if (s.all.size() == 8) { return fault; }
                    Stone f = new Stone();
                    f.kind = kind;
                    s.all.add(f);
                    next = "high loved off ;";
                } else if (t.matches("rain|cold|mild|tank")) {
                    next = "number";
                    number = t;
                } else {
                    return fault;
                }
                items++;
            } else if (next.equals("number")) {
                if (!digits) { return fault; }
                next = ";";
                switch (number) {
                    case "high":
                        if (!in(v, 1, 40)) { return fault; }
                        last.high = v;
                        next = "loved off ;";
                        break;
                    case "loved":
                        if (!in(v, 0, 99)) { return fault; }
                        last.loved = v;
                        next = "off ;";
                        break;
                    case "rain":
                        if (!in(v, 0, 7)) { return fault; }
                        week = v;
                        next = "number";
                        number = "drops";
                        break;
                    case "drops":
                        if (!in(v, 0, 99)) { return fault; }
                        s.rain[week] = v;
                        break;
                    case "tank":
                        if (!in(v, 0, 9999)) { return fault; }
                        s.tank = v;
                        break;
                    default:
                        if (!in(v, 0, 7)) { return fault; }
                        s.cold[v] = number.equals("cold") ? 1 : 0;
                        break;
                }
            } else {
                if (!java.util.Arrays.asList(next.split(" ")).contains(t)) { return fault; }
                if (t.equals(";")) {
                    next = "item";
                } else if (t.equals("off")) {
                    last.off = true;
                    next = ";";
                } else {
                    next = "number";
                    number = t;
                }
            }
        }
        if (next.equals("item") || next.equals("number")) { return -1 - text.length(); }
        here = s;
        return items;
    }

    int sheet(int s, int b, int n) {
        if (!in(s, 0, 3) || !(b == 0 || b == 8 || b == 16 || b == 64)) { return tell(Due.BEYOND); }
        if (n < 0) { return tell(Due.SIZE); }
        if (n > 40) { return tell(Due.BEYOND); }
        bits[s] = b;
        sheets[s] = b == 0 ? null : new long[n];
        return b == 0 ? 0 : n;
    }

    long cut(int s, long v) { return v << (64 - bits[s]) >> (64 - bits[s]); }

    long write(int s, int i, long v) {
        if (!in(s, 0, 3)) { return tell(Due.BEYOND); }
        if (sheets[s] == null) { return tell(Due.MISSING); }
        if (!in(i, 0, sheets[s].length - 1)) { return tell(Due.BEYOND); }
        long was = sheets[s][i];
        sheets[s][i] = cut(s, v);
        return was;
    }

    int copy(int s, int from, int t, int to, int n) {
        if (!in(s, 0, 3) || !in(t, 0, 3)) { return tell(Due.BEYOND); }
        if (sheets[s] == null || sheets[t] == null) { return tell(Due.MISSING); }
        if (bits[s] != bits[t]) { return tell(Due.KIND); }
        if (from < 0 || to < 0 || n < 0 || (long) from + n > sheets[s].length || (long) to + n > sheets[t].length) {
            return tell(Due.BEYOND);
        }
        long[] were = sheets[s].clone();
        for (int i = 0; i < n; i++) { sheets[t][to + i] = were[from + i]; }
        return n;
    }

    int lays(int s) {
        if (!in(s, 0, 3)) { return tell(Due.BEYOND); }
        if (sheets[s] == null) { return tell(Due.MISSING); }
        int came = 0;
        for (int i = 0; i < sheets[s].length; i++) {
            if (i > 7 || sheets[s][i] < 0 || sheets[s][i] > 99) { continue; }
            here.rain[i] = (int) sheets[s][i];
            came++;
        }
        return came;
    }

    int book(int s) {
        if (!in(s, 0, 3)) { return tell(Due.BEYOND); }
        if (sheets[s] == null) { return tell(Due.MISSING); }
        for (int i = 0; i < sheets[s].length; i++) { sheets[s][i] = cut(s, here.on(i).tank); }
        return sheets[s].length;
    }

    int read(int s, int fountain) {
        if (!in(s, 0, 3)) { return tell(Due.BEYOND); }
        if (sheets[s] == null) { return tell(Due.MISSING); }
        if (!one(fountain)) { return tell(Due.BEYOND); }
        int pairs = 0;
        for (int k = 0; k < 6; k++) {
            for (int h = 1; h <= 40; h++) {
                State st = here.copy();
                st.all.get(fountain).kind = k;
                st.all.get(fountain).high = h;
                boolean same = true;
                for (int i = 0; i < sheets[s].length; i++, st = st.on(1)) { same &= st.tank == sheets[s][i]; }
                if (same) { pairs++; }
            }
        }
        return pairs;
    }

    int image() {
        kept = here.copy();
        return 1;
    }

    int undo() {
        if (kept == null) { return tell(Due.NONE); }
        here = kept.copy();
        return here.all.size();
    }

    int tear() {
        int had = kept == null ? 0 : 1;
        kept = null;
        return had;
    }

    int count(int what) {
        if (!in(what, 0, 3)) { return tell(Due.BEYOND); }
        return new int[] {here.all.size(), tape.length(), Integer.bitCount(here.offs()), here.stooped()}[what];
    }

    int status(int which) {
        if (!in(which, -1, 6)) { return tell(Due.BEYOND); }
        int all = 0;
        for (int t : told) { all += t; }
        return which < 0 ? all : told[which];
    }
}
