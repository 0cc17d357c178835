import java.util.ArrayDeque;
import java.util.ArrayList;
import java.util.List;
import java.util.Random;

/**
 * Random runs of calls, each answered by the class and by a second reading of the document that is
 * written in another manner: columns of objects, KINDS as Java classes, TEXTS worked out from their
 * signs, every HOUR tried by itself. The seeds are fixed.
 */
public final class ModelTest {
    static final int LOW = -1000000;
    static final int CALLS_MOST = 512;
    static final int CALLS_OF_DUMP = 200;
    static int wrong = 0;

    // ---- the model

    /** A KIND by Java's own overriding. */
    static class Armful {
        int stuff, wet, loose = 3, warm = 0;
        boolean lit;

        int number() { return 0; }
        int burnsOf(int b) { return b; }
        int heat() { return 4; }
        int catchAt() { return 60; }
        int dries(Talk t, int x) { t.begin(10); return x + stuff; }
        int burns(Talk t, int x) { t.begin(11); return dries(t, x) * 2; }
        int smokes(Talk t, int x) { t.begin(12); return burns(t, x) - t.place; }
        int minds(Talk t, int x) {
            t.begin(13);
            if (stuff == t.place) throw new Parted();
            return x / (stuff - t.place);
        }

        Armful asKind(int kind) {
            Armful a = of(kind);
            a.stuff = stuff; a.wet = wet; a.loose = loose; a.warm = warm; a.lit = lit;
            return a;
        }

        static Armful of(int kind) {
            switch (kind) {
                case 0: return new Armful();
                case 1: return new Dry();
                case 2: return new Rose();
                case 3: return new Paper();
                case 4: return new Damp();
                case 5: return new Green();
                default: return new Lived();
            }
        }
    }

    static class Dry extends Armful {
        @Override int number() { return 1; }
        @Override int burnsOf(int b) { return 2 * super.burnsOf(b); }
        @Override int heat() { return super.heat() + 1; }
        @Override int catchAt() { return super.catchAt() / 2; }
        @Override int dries(Talk t, int x) { t.begin(20); return super.dries(t, x) - 7; }
        @Override int minds(Talk t, int x) { t.begin(21); return super.minds(t, x) + burns(t, 1); }
    }

    static class Rose extends Armful {
        @Override int number() { return 2; }
        @Override int heat() { return super.heat() * 2; }
        @Override int catchAt() { return super.catchAt() * 2; }
        @Override int smokes(Talk t, int x) { t.begin(30); return super.smokes(t, x) ^ stuff; }
    }

    static class Paper extends Dry {
        @Override int number() { return 3; }
        @Override int burnsOf(int b) { return 3 * super.burnsOf(b); }
        @Override int heat() { return super.heat() - 2; }
        @Override int catchAt() { return super.catchAt() / 5; }
        @Override int dries(Talk t, int x) { t.begin(40); return super.dries(t, x / 2); }
        @Override int burns(Talk t, int x) { t.begin(41); return 0 - super.burns(t, x); }
    }

    static class Damp extends Rose {
        @Override int number() { return 4; }
        @Override int burnsOf(int b) { return super.burnsOf(b) / 2; }
        @Override int heat() { return super.heat() - 3; }
        @Override int smokes(Talk t, int x) { t.begin(50); return super.smokes(t, x + 1); }
        @Override int minds(Talk t, int x) { t.begin(51); return super.minds(t, x) - smokes(t, 0); }
    }

    static class Green extends Armful {
        @Override int number() { return 5; }
        @Override int burnsOf(int b) { return super.burnsOf(b) / 2; }
        @Override int heat() { return super.heat() - 1; }
        @Override int catchAt() { return super.catchAt() + 30; }
        @Override int burns(Talk t, int x) { t.begin(60); return super.burns(t, x) + t.place; }
    }

    static class Lived extends Green {
        @Override int number() { return 6; }
        @Override int burnsOf(int b) { return 0; }
        @Override int catchAt() { return 10000; }
        @Override int dries(Talk t, int x) { t.begin(70); return 3; }
        @Override int smokes(Talk t, int x) { t.begin(71); return super.smokes(t, x) * 5; }
    }

    static class Talk {
        int place;
        List<Integer> bodies = new ArrayList<>();

        void begin(int body) { if (bodies.size() < 30) bodies.add(body); }
    }

    /** Ends all of a voice() at once. */
    static class Parted extends RuntimeException {
        private static final long serialVersionUID = 1;
    }

    /** All that an IMAGE keeps. */
    static class World {
        List<List<Armful>> columns = new ArrayList<>();
        int clock = 900, wind = 5, way = 0, dryness = 60, home = 4;
        long[] smelt = new long[9], bothered = new long[9];
        int[] washing = new int[9];
        String[] laws = new String[3];
        String tape = "";
        int z = 1, minutes = 0, ashes = 0;
        long burnt = 0, smoke = 0;
        List<int[]> reports = new ArrayList<>();
        List<Integer> waiting = new ArrayList<>();

        World() { for (int c = 0; c < 6; c++) columns.add(new ArrayList<>()); }

        World copy() {
            World w = new World();
            for (int c = 0; c < 6; c++) for (Armful a : columns.get(c)) w.columns.get(c).add(a.asKind(a.number()));
            w.clock = clock; w.wind = wind; w.way = way; w.dryness = dryness; w.home = home;
            w.smelt = smelt.clone(); w.bothered = bothered.clone(); w.washing = washing.clone();
            w.laws = laws.clone(); w.tape = tape; w.z = z; w.minutes = minutes; w.ashes = ashes;
            w.burnt = burnt; w.smoke = smoke;
            w.reports = new ArrayList<>(reports); w.waiting = new ArrayList<>(waiting);
            return w;
        }

        Armful at(int column, int row) {
            if (column < 0 || column > 5 || row < 0) return null;
            List<Armful> c = columns.get(column);
            return row < c.size() ? c.get(row) : null;
        }

        Armful at(int place) { return at(place % 6, place / 6); }

        List<Armful> all() {
            List<Armful> l = new ArrayList<>();
            for (int p = 0; p < 30; p++) if (at(p) != null) l.add(at(p));
            return l;
        }

        int lit() { int n = 0; for (Armful a : all()) if (a.lit) n++; return n; }

        int draught(int column, int row) {
            int[][] sides = {{-1, 0}, {1, 0}, {0, 1}, {0, -1}};
            int n = 0;
            for (int[] s : sides) if (row + s[1] >= 0 && at(column + s[0], row + s[1]) == null) n++;
            int[] from = way == 0 ? sides[0] : way == 2 ? sides[1] : sides[2];
            boolean windy = at(column + from[0], row + from[1]) == null;
            return n * at(column, row).loose + (windy ? wind : 0);
        }

        void minute() {
            long made = 0;
            for (int row = 0; row < 5; row++) {
                for (int column = 0; column < 6; column++) {
                    Armful a = at(column, row);
                    if (a == null) continue;
                    if (a.lit) {
                        int d = draught(column, row);
                        int b = laws[0] == null ? d / 4 + 1
                                : Text.value(laws[0], "dswr", new int[] {d, a.stuff, a.wet, a.warm});
                        b = Math.max(1, Math.min(a.stuff, b));
                        b = Math.max(0, Math.min(a.stuff, a.burnsOf(b)));
                        a.stuff -= b;
                        a.warm = Math.min(9999, a.warm + b * a.heat());
                        made += b * (a.wet + 10) / 20;
                        burnt = Math.min(1999999999L, burnt + b);
                        if (a.stuff == 0) {
                            ashes++;
                            columns.get(column).remove(row);
                            continue;
                        }
                    }
                    Armful[] beside = {at(column - 1, row), at(column + 1, row), at(column, row + 1), at(column, row - 1)};
                    for (Armful b : beside) {
                        if (b == null) continue;
                        int g = a.warm / 8;
                        b.warm = Math.min(9999, b.warm + g);
                        a.warm -= g;
                    }
                    a.wet = Math.max(0, a.wet - a.warm / 20);
                    if (!a.lit && a.wet <= dryness && a.warm >= a.catchAt()) a.lit = true;
                    a.warm = Math.max(0, a.warm - (a.warm / 10 + 1));
                    if (a.lit && (a.warm < 5 || a.wet > 700)) a.lit = false;
                }
            }
            int h = clock / 60;
            int share = laws[2] != null ? Text.value(laws[2], "hws", new int[] {h, wind, (int) made})
                    : h >= 18 || h < 6 ? 90 : 40;
            share = Math.max(0, Math.min(100, share));
            long lies = made * share / 100;
            int x = home % 3;
            int y = home / 3;
            while (x >= 0 && x < 3 && y >= 0 && y < 3) {
                int g = 3 * y + x;
                long half = lies / 2;
                smelt[g] = Math.min(1999999999L, smelt[g] + half);
                if ((washing[g] & 1 << h) != 0) bothered[g] = Math.min(1999999999L, bothered[g] + half);
                lies -= half;
                x += way == 0 ? 1 : way == 2 ? -1 : 0;
                y += way == 1 ? 1 : way == 3 ? -1 : 0;
            }
            smoke = Math.min(1999999999L, smoke + made);
            clock = clock == 1439 ? 0 : clock + 1;
            minutes++;
        }

        World then(int n) {
            World w = copy();
            for (int k = 0; k < n; k++) w.minute();
            return w;
        }

        void hand(int place) { Armful a = at(place); a.lit = true; if (a.warm < 100) a.warm = 100; }

        int heap(int what) {
            long s = 0;
            for (Armful a : all()) s += what == 0 ? a.stuff : what == 2 ? a.warm : a.wet;
            int high = 0;
            for (List<Armful> c : columns) high = Math.max(high, c.size());
            switch (what) {
                case 1: return lit();
                case 3: return ashes;
                case 4: return (int) burnt;
                case 5: return (int) smoke;
                case 6: return high;
                default: return (int) s;
            }
        }

        int garden(int g, int what) { return what == 0 ? (int) smelt[g] : what == 1 ? (int) bothered[g] : washing[g]; }

        boolean bylaw() {
            return laws[1] == null || Text.value(laws[1], "hwln", new int[] {clock / 60, wind, lit(), all().size()}) != 0;
        }

        int suspects(int without) {
            int bits = 0;
            for (int g = 0; g < 9; g++) {
                boolean fits = true;
                for (int k = 0; k < reports.size(); k++) if (k != without && !comes(g, reports.get(k))) fits = false;
                if (fits) bits |= 1 << g;
            }
            return bits;
        }

        static boolean comes(int g, int[] report) {
            int x = g % 3;
            int y = g / 3;
            while (x >= 0 && x < 3 && y >= 0 && y < 3) {
                if (3 * y + x == report[0]) return true;
                x += report[1] == 0 ? 1 : report[1] == 2 ? -1 : 0;
                y += report[1] == 1 ? 1 : report[1] == 3 ? -1 : 0;
            }
            return false;
        }
    }

    /** TEXTS: the FAULT by a stack of what is open, the value by joining the loosest sign last. */
    static class Text {
        static int fault(String s, String names) {
            ArrayDeque<Character> open = new ArrayDeque<>();
            ArrayDeque<Boolean> outer = new ArrayDeque<>();
            boolean compared = false;
            boolean wants = true;
            int digits = 0;
            for (int i = 0; i < s.length(); i++) {
                char c = s.charAt(i);
                boolean digit = "0123456789".indexOf(c) >= 0;
                if (wants) {
                    if (digit || names.indexOf(c) >= 0) {
                        wants = false;
                        digits = digit ? 1 : 4;
                        while (!open.isEmpty() && open.peek() == '!') open.pop();
                    } else if ((c == '!' || c == '(') && open.size() < 5) {
                        open.push(c);
                        if (c == '(') { outer.push(compared); compared = false; }
                    } else {
                        return i;
                    }
                } else if (digit && digits < 4) {
                    digits++;
                } else if ("+-*/%".indexOf(c) >= 0) {
                    wants = true;
                } else if ("<=>".indexOf(c) >= 0 && !compared) {
                    wants = true;
                    compared = true;
                } else if (c == '&' || c == '|') {
                    wants = true;
                    compared = false;
                } else if (c == ')' && !open.isEmpty()) {
                    open.pop();
                    while (!open.isEmpty() && open.peek() == '!') open.pop();
                    compared = outer.pop();
                    digits = 4;
                } else {
                    return i;
                }
            }
            return wants || !open.isEmpty() ? s.length() : -1;
        }

        static int value(String s, String names, int[] values) {
            for (String signs : new String[] {"|", "&", "<=>", "+-", "*/%"}) {
                int at = lastOutside(s, signs);
                if (at >= 0) {
                    int a = value(s.substring(0, at), names, values);
                    int b = value(s.substring(at + 1), names, values);
                    return join(s.charAt(at), a, b);
                }
            }
            if (s.charAt(0) == '!') return value(s.substring(1), names, values) == 0 ? 1 : 0;
            if (s.charAt(0) == '(') return value(s.substring(1, s.length() - 1), names, values);
            return names.indexOf(s.charAt(0)) >= 0 ? values[names.indexOf(s.charAt(0))] : Integer.parseInt(s);
        }

        static int lastOutside(String s, String signs) {
            int deep = 0;
            for (int i = s.length() - 1; i >= 0; i--) {
                char c = s.charAt(i);
                deep += c == ')' ? 1 : c == '(' ? -1 : 0;
                if (deep == 0 && signs.indexOf(c) >= 0) return i;
            }
            return -1;
        }

        static int join(char c, int a, int b) {
            switch (c) {
                case '|': return (a != 0) | (b != 0) ? 1 : 0;
                case '&': return (a != 0) & (b != 0) ? 1 : 0;
                case '<': return a < b ? 1 : 0;
                case '=': return a == b ? 1 : 0;
                case '>': return a > b ? 1 : 0;
                case '+': return a + b;
                case '-': return a - b;
                case '*': return a * b;
                case '/': return b == 0 ? 0 : (int) ((long) a / b);
                default: return b == 0 ? 0 : (int) ((long) a % b);
            }
        }
    }

    /** The calls, by name. */
    static class Model {
        World w = new World();
        World kept;
        int images = 0;
        int[] told = new int[7];
        List<Integer> trace = new ArrayList<>();
        Object[] sheets = new Object[4];

        int err(int k) { told[k]++; return LOW - k; }

        static boolean in(long v, long a, long b) { return v >= a && v <= b; }

        int call(String name, long[] a) {
            int i0 = a.length > 0 ? (int) a[0] : 0;
            int i1 = a.length > 1 ? (int) a[1] : 0;
            int i2 = a.length > 2 ? (int) a[2] : 0;
            switch (name) {
                case "lay": return lay(i0, i1, i2, (int) a[3], true);
                case "take": case "armful": case "as": case "become": case "light": case "fork": case "pour":
                case "reach": case "hour": case "voice":
                    return ofPlace(name, i0, i1, i2);
                case "set": return set(i0, i1);
                case "feed": return feed(a[0], i1);
                case "text": return text(i0);
                case "untell": {
                    if (!in(i0, 0, 2)) return err(1);
                    int was = w.laws[i0] == null ? 0 : 1;
                    w.laws[i0] = null;
                    return was;
                }
                case "minutes": case "gusts": {
                    if (!in(i0, 1, 200)) return err(1);
                    if (w.minutes + i0 > 99999) return err(3);
                    for (int k = 0; k < i0; k++) {
                        int was = w.wind;
                        if (name.equals("gusts")) { w.z = w.z * 1103515245 + 12345; w.wind = (w.z >>> 8) % 100; }
                        w.minute();
                        w.wind = was;
                    }
                    return w.minutes;
                }
                case "seed": { int was = w.z; w.z = i0; return was; }
                case "washing": {
                    if (!in(i0, 0, 8) || !in(i1, 0, 23) || !in(i2, 0, 23)) return err(1);
                    w.washing[i0] = 0;
                    for (int h = 0; h < 24; h++) if (h >= i1 && h <= i2) w.washing[i0] += 1 << h;
                    return Math.max(0, i2 - i1 + 1);
                }
                case "garden": return in(i0, 0, 8) && in(i1, 0, 2) ? w.garden(i0, i1) : err(1);
                case "heap": return in(i0, 0, 7) ? w.heap(i0) : err(1);
                case "may": return w.bylaw() ? 1 : 0;
                case "then": return in(i0, 0, 60) && in(i1, 0, 7) ? w.then(i0).heap(i1) : err(1);
                case "gardenThen":
                    return in(i0, 0, 60) && in(i1, 0, 8) && in(i2, 0, 2) ? w.then(i0).garden(i1, i2) : err(1);
                case "spot": return spot(i0);
                case "out": return out(i0);
                case "catches": {
                    if (!in(i0, 0, 29) || !in(i1, 0, 60)) return err(1);
                    for (int k = 0; k <= i1; k++) {
                        Armful b = w.then(k).at(i0);
                        if (b != null && b.lit) return k;
                    }
                    return err(2);
                }
                default: return rest(name, a, i0, i1, i2);
            }
        }

        int lay(int kind, int column, int stuff, int wet, boolean counted) {
            int e = !in(kind, 0, 6) || !in(column, 0, 5) || !in(stuff, 1, 999) || !in(wet, 0, 999) ? 1
                    : w.columns.get(column).size() == 5 ? 4 : 0;
            if (e != 0) return counted ? err(e) : LOW - e;
            Armful b = Armful.of(kind);
            b.stuff = stuff;
            b.wet = wet;
            w.columns.get(column).add(b);
            return 6 * (w.columns.get(column).size() - 1) + column;
        }

        int ofPlace(String name, int p, int v, int x) {
            if (!in(p, 0, 29)) return err(1);
            if (name.equals("armful") && !in(v, 0, 8)) return err(1);
            if ((name.equals("as") || name.equals("become")) && !in(v, 0, 6)) return err(1);
            if (name.equals("fork") && !in(v, 0, 9) || name.equals("pour") && !in(v, 0, 999)) return err(1);
            if (name.equals("hour") && !in(v, 0, 60) || name.equals("voice") && !in(v, 0, 3)) return err(1);
            Armful b = w.at(p);
            if (b == null) return err(2);
            List<Armful> column = w.columns.get(p % 6);
            switch (name) {
                case "take": column.remove(p / 6); return b.stuff;
                case "armful": return new int[] {b.number(), b.stuff, b.wet, b.loose, b.warm, b.lit ? 1 : 0,
                    w.draught(p % 6, p / 6), b.heat(), b.catchAt()}[v];
                case "as": return Armful.of(v).getClass().isInstance(b) ? b.stuff : err(5);
                case "become": column.set(p / 6, b.asKind(v)); return b.number();
                case "light":
                    if (b.lit || b.wet > w.dryness || b instanceof Lived || !w.bylaw()) return err(3);
                    w.hand(p);
                    return 1;
                case "fork": { int was = b.loose; b.loose = v; return was; }
                case "pour": b.wet = Math.min(999, b.wet + v); b.warm = Math.max(0, b.warm - v); return b.wet;
                case "reach": { boolean[] seen = new boolean[30]; return reach(p % 6, p / 6, seen); }
                case "hour": return hour(p, v);
                default: return voice(b, p, v, x);
            }
        }

        int reach(int column, int row, boolean[] seen) {
            if (w.at(column, row) == null || seen[6 * row + column]) return 0;
            seen[6 * row + column] = true;
            return 1 + reach(column - 1, row, seen) + reach(column + 1, row, seen)
                    + reach(column, row - 1, seen) + reach(column, row + 1, seen);
        }

        int hour(int p, int n) {
            int best = -1;
            long least = Long.MAX_VALUE;
            for (int h = 23; h >= 0; h--) {
                World v = w.copy();
                v.clock = 60 * h;
                v.hand(p);
                long more = 0;
                World later = v.then(n);
                for (int g = 0; g < 9; g++) more += later.bothered[g] - v.bothered[g];
                if (more <= least) { least = more; best = h; }
            }
            return best;
        }

        int voice(Armful b, int p, int v, int x) {
            Talk t = new Talk();
            t.place = p;
            trace = t.bodies;
            try {
                return v == 0 ? b.dries(t, x) : v == 1 ? b.burns(t, x) : v == 2 ? b.smokes(t, x) : b.minds(t, x);
            } catch (Parted parted) {
                return err(6);
            }
        }

        int spot(int n) {
            if (!in(n, 0, 60)) return err(1);
            int best = -1;
            long most = -1;
            for (int p = 0; p < 30; p++) {
                if (w.at(p) == null) continue;
                World v = w.copy();
                v.hand(p);
                long more = v.then(n).burnt - v.burnt;
                if (more > most) { most = more; best = p; }
            }
            return best < 0 ? err(2) : best;
        }

        int out(int n) {
            if (!in(n, 0, 60)) return err(1);
            for (int water = 0; water <= 950; water += 50) {
                World v = w.copy();
                for (Armful b : v.all()) {
                    if (b.lit) { b.wet = Math.min(999, b.wet + water); b.warm = Math.max(0, b.warm - water); }
                }
                if (v.then(n).lit() == 0) return water;
            }
            return err(2);
        }

        int set(int what, int v) {
            int[] most = {1439, 99, 3, 999, 8};
            if (!in(what, 0, 4) || !in(v, 0, most[what])) return err(1);
            int[] was = {w.clock, w.wind, w.way, w.dryness, w.home};
            if (what == 0) w.clock = v;
            if (what == 1) w.wind = v;
            if (what == 2) w.way = v;
            if (what == 3) w.dryness = v;
            if (what == 4) w.home = v;
            return was[what];
        }

        int feed(long word, int n) {
            if (!in(n, 1, 8)) return err(1);
            if (w.tape.length() + n > 60) return err(4);
            for (int k = 0; k < n; k++) w.tape += (char) (word >> 8 * k & 0xff);
            return w.tape.length();
        }

        int text(int use) {
            if (!in(use, 0, 2)) return err(1);
            String s = w.tape;
            w.tape = "";
            int fault = Text.fault(s, new String[] {"dswr", "hwln", "hws"}[use]);
            if (fault >= 0) return -10 - fault;
            w.laws[use] = s;
            return 1;
        }

        int rest(String name, long[] a, int i0, int i1, int i2) {
            switch (name) {
                case "report":
                    if (!in(i0, 0, 8) || !in(i1, 0, 3)) return err(1);
                    if (w.reports.size() == 12) return err(4);
                    w.reports.add(new int[] {i0, i1});
                    return w.reports.size() - 1;
                case "suspects": return w.suspects(-1);
                case "liar": {
                    int best = -1;
                    for (int k = w.reports.size() - 1; k >= 0; k--) {
                        if (best < 0 || Integer.bitCount(w.suspects(k)) >= Integer.bitCount(w.suspects(best))) best = k;
                    }
                    return best < 0 ? err(2) : best;
                }
                case "body": return in(i0, 0, trace.size() - 1) ? trace.get(i0) : err(2);
                case "sheet":
                    if (!in(i0, 0, 3) || i1 != 0 && i1 != 8 && i1 != 16 && i1 != 32) return err(1);
                    if (i1 == 0) { sheets[i0] = null; return 1; }
                    if (i2 < 0) return err(3);
                    if (i2 > 24) return err(1);
                    sheets[i0] = i1 == 8 ? new byte[i2] : i1 == 16 ? new short[i2] : (Object) new int[i2];
                    return 1;
                case "put":
                    if (!in(i0, 0, 3)) return err(1);
                    if (sheets[i0] == null) return err(2);
                    if (!in(i1, 0, java.lang.reflect.Array.getLength(sheets[i0]) - 1)) return err(1);
                    if (sheets[i0] instanceof byte[]) ((byte[]) sheets[i0])[i1] = (byte) i2;
                    else if (sheets[i0] instanceof short[]) ((short[]) sheets[i0])[i1] = (short) i2;
                    else ((int[]) sheets[i0])[i1] = i2;
                    return 1;
                case "move": return move(i0, i1, i2, (int) a[3], (int) a[4]);
                case "armfuls": return armfuls(i0);
                case "image": kept = w.copy(); return ++images;
                case "restore":
                    if (kept == null) return err(2);
                    w = kept.copy();
                    return w.minutes;
                case "tell":
                    if (w.waiting.size() == 24) return err(4);
                    w.waiting.add(i0);
                    return w.waiting.size();
                case "check": return check(i0);
                case "count":
                    if (!in(i0, 0, 7)) return err(1);
                    return new int[] {w.all().size(), w.minutes, w.reports.size(), w.clock, w.tape.length(),
                        w.waiting.size(), trace.size(), w.z}[i0];
                case "told": return in(i0, 1, 6) ? told[i0] : err(1);
                default: throw new IllegalArgumentException(name);
            }
        }

        int move(int s, int i, int o, int j, int n) {
            if (!in(s, 0, 3) || !in(o, 0, 3)) return err(1);
            if (sheets[s] == null || sheets[o] == null) return err(2);
            if (sheets[s].getClass() != sheets[o].getClass()) return err(5);
            try {
                System.arraycopy(sheets[s], i, sheets[o], j, n);
            } catch (IndexOutOfBoundsException e) {
                return err(1);
            }
            return n;
        }

        int armfuls(int s) {
            if (!in(s, 0, 3)) return err(1);
            if (sheets[s] == null) return err(2);
            int n = java.lang.reflect.Array.getLength(sheets[s]);
            int came = 0;
            while (4 * came + 4 <= n) {
                int[] v = new int[4];
                for (int k = 0; k < 4; k++) v[k] = java.lang.reflect.Array.getInt(sheets[s], 4 * came + k);
                if (lay(v[0], v[1], v[2], v[3], false) < 0) break;
                came++;
            }
            return came;
        }

        int check(int column) {
            List<Integer> said = new ArrayList<>(w.waiting);
            w.waiting.clear();
            if (!in(column, 0, 5)) return err(1);
            List<Integer> kinds = new ArrayList<>();
            for (Armful b : w.columns.get(column)) kinds.add(b.number());
            if (said.equals(kinds)) return 0;
            int k = 0;
            while (k < said.size() && k < kinds.size() && said.get(k).equals(kinds.get(k))) k++;
            return 1 + k;
        }
    }

    // ---- the same call of the class

    static int answer(SmokyHeap x, String name, long[] a) {
        int i = a.length > 0 ? (int) a[0] : 0;
        int j = a.length > 1 ? (int) a[1] : 0;
        int k = a.length > 2 ? (int) a[2] : 0;
        switch (name) {
            case "lay": return x.lay(i, j, k, (int) a[3]);
            case "take": return x.take(i);
            case "armful": return x.armful(i, j);
            case "as": return x.as(i, j);
            case "become": return x.become(i, j);
            case "light": return x.light(i);
            case "fork": return x.fork(i, j);
            case "pour": return x.pour(i, j);
            case "set": return x.set(i, j);
            case "feed": return x.feed(a[0], j);
            case "text": return x.text(i);
            case "untell": return x.untell(i);
            case "minutes": return x.minutes(i);
            case "gusts": return x.gusts(i);
            case "seed": return x.seed(i);
            case "washing": return x.washing(i, j, k);
            case "garden": return x.garden(i, j);
            case "heap": return x.heap(i);
            case "may": return x.may();
            case "then": return x.then(i, j);
            case "gardenThen": return x.gardenThen(i, j, k);
            case "hour": return x.hour(i, j);
            case "spot": return x.spot(i);
            case "out": return x.out(i);
            case "catches": return x.catches(i, j);
            case "reach": return x.reach(i);
            case "report": return x.report(i, j);
            case "suspects": return x.suspects();
            case "liar": return x.liar();
            case "voice": return x.voice(i, j, k);
            case "body": return x.body(i);
            case "sheet": return x.sheet(i, j, k);
            case "put": return x.put(i, j, k);
            case "move": return x.move(i, j, k, (int) a[3], (int) a[4]);
            case "armfuls": return x.armfuls(i);
            case "image": return x.image();
            case "restore": return x.restore();
            case "tell": return x.tell(i);
            case "check": return x.check(i);
            case "count": return x.count(i);
            case "told": return x.told(i);
            default: throw new IllegalArgumentException(name);
        }
    }

    // ---- random calls

    static class Run {
        final Random r;
        final SmokyHeap x = new SmokyHeap();
        final Model m = new Model();
        final int number;
        int calls = 0;
        String last = "";

        Run(int number) { this.number = number; r = new Random(number * 7919L + 17); }

        // What an object answers to its 513th call and later ones is free.
        void call(String name, long... a) {
            if (calls == CALLS_MOST) return;
            StringBuilder s = new StringBuilder(name).append(java.util.Arrays.toString(a));
            int want = m.call(name, a);
            int got = answer(x, name, a);
            calls++;
            if (got != want) {
                wrong++;
                if (wrong < 30) {
                    System.out.println("run " + number + ", call " + calls + ": " + s + " answered " + got
                            + ", the model has " + want);
                }
            }
        }

        // Now and then a number outside, or a wild one.
        int n(int least, int most) {
            int c = r.nextInt(60);
            if (c == 0) return least - 1;
            if (c == 1) return most + 1;
            if (c == 2) return r.nextInt();
            if (c == 3) return r.nextBoolean() ? Integer.MIN_VALUE : Integer.MAX_VALUE;
            if (c < 8) return r.nextBoolean() ? least : most;
            return least + r.nextInt(most - least + 1);
        }

        int place() {
            List<Integer> there = new ArrayList<>();
            for (int p = 0; p < 30; p++) if (m.w.at(p) != null) there.add(p);
            return there.isEmpty() || r.nextInt(12) == 0 ? n(0, 29) : there.get(r.nextInt(there.size()));
        }

        String unit(String names, int open) {
            int c = r.nextInt(10);
            if (c < 3) return "" + names.charAt(r.nextInt(names.length()));
            if (c == 3) return "!" + unit(names, open + 1);
            if (c < 6 && open < 7) return "(" + text(names, open + 1) + ")";
            return "" + (r.nextInt(5) == 0 ? r.nextInt(10000) : r.nextInt(20));
        }

        String text(String names, int open) {
            StringBuilder s = new StringBuilder(unit(names, open));
            int parts = r.nextInt(open > 0 ? 3 : 6);
            for (int k = 0; k < parts; k++) {
                s.append("+-*/%+-*/%&|<=>".charAt(r.nextInt(15))).append(unit(names, open));
            }
            return s.toString();
        }

        void feedText() {
            int use = n(0, 2);
            String names = use == 0 ? "dswr" : use == 1 ? "hwln" : "hws";
            StringBuilder s = new StringBuilder();
            for (int tries = 0; tries < 6; tries++) {
                s = new StringBuilder(text(names, 0));
                if (s.length() <= 60 && Text.fault(s.toString(), names) < 0) break;
            }
            if (r.nextInt(4) == 0) {
                String bytes = "()!|&<=>+-*/%0123456789dswrhln zA\0\u00ff";
                int at = r.nextInt(s.length() + 1);
                char c = bytes.charAt(r.nextInt(bytes.length()));
                if (r.nextBoolean() || at == s.length()) s.insert(at, c);
                else if (r.nextBoolean()) s.setCharAt(at, c);
                else s.setLength(at);
            }
            if (r.nextInt(15) == 0) s = new StringBuilder("!(!(!(".substring(r.nextInt(6))).append(s);
            for (int at = 0; at < s.length(); ) {
                int many = Math.min(s.length() - at, 1 + r.nextInt(8));
                long word = r.nextBoolean() ? r.nextLong() << 8 * many - 1 << 1 : 0;
                for (int k = 0; k < many; k++) word |= (long) (s.charAt(at + k) & 255) << 8 * k;
                call("feed", word, many);
                at += many;
            }
            call("text", use);
        }

        void fire() {
            call("set", 3, n(20, 999));
            int some = 1 + r.nextInt(8);
            int column = r.nextInt(6);
            for (int k = 0; k < some; k++) {
                column = Math.max(0, Math.min(5, column + r.nextInt(3) - 1));
                call("lay", n(0, 6), column, r.nextInt(4) == 0 ? n(1, 999) : n(1, 60), r.nextInt(3) == 0 ? n(0, 999) : n(0, 60));
            }
            for (int k = 0; k < 2; k++) call("light", place());
        }

        void sheets() {
            int s = n(0, 3);
            int[] bits = {8, 16, 32, 8, 16, 32, 0, 7};
            call("sheet", s, bits[r.nextInt(8)], n(0, 24));
            int many = r.nextInt(12);
            for (int k = 0; k < many; k++) {
                int v = k % 4 == 0 ? n(0, 6) : k % 4 == 1 ? n(0, 5) : k % 4 == 2 ? n(1, 400) : n(0, 400);
                if (r.nextInt(6) == 0) v += 65536 * r.nextInt(9) + (r.nextBoolean() ? 256 : 0);
                call("put", s, k, v);
            }
            call("move", s, n(0, 10), n(0, 3), n(0, 10), n(0, 10));
            call("armfuls", n(0, 3));
        }

        void step() {
            switch (r.nextInt(43)) {
                case 40: washDays(); break;
                case 41: if (r.nextInt(3) == 0) manyReports(); break;
                case 42: if (r.nextInt(6) == 0) for (int k = 0; k < 25; k++) call("tell", n(0, 6)); break;
                case 0: case 1: case 2: fire(); break;
                case 3: case 4: feedText(); break;
                case 5: sheets(); break;
                case 6: case 7: call("minutes", r.nextInt(6) == 0 ? n(1, 200) : n(1, 6)); break;
                case 8: call("gusts", r.nextInt(6) == 0 ? n(1, 200) : n(1, 6)); break;
                case 9: call("take", place()); break;
                case 10: call("become", place(), n(0, 6)); break;
                case 11: call("as", place(), n(0, 6)); break;
                case 12: call("fork", place(), n(0, 9)); break;
                case 13: call("pour", place(), r.nextInt(3) == 0 ? n(0, 999) : n(0, 60)); break;
                case 14: { int[] most = {1439, 99, 3, 999, 8, 3}; int w = n(0, 4); call("set", w, n(0, most[Math.max(0, Math.min(5, w))])); break; }
                case 15: call("untell", n(0, 2)); break;
                case 16: call("seed", r.nextInt()); break;
                case 17: case 18: call("washing", n(0, 8), n(0, 23), n(0, 23)); break;
                case 19: call("may"); break;
                case 20: call("then", n(0, 60), n(0, 7)); break;
                case 21: call("gardenThen", n(0, 60), n(0, 8), n(0, 2)); break;
                case 22: call("hour", place(), n(0, 60)); break;
                case 23: call("spot", n(0, 60)); break;
                case 24: case 25: call("out", r.nextBoolean() ? n(0, 60) : n(0, 8)); break;
                case 26: call("catches", place(), n(0, 60)); break;
                case 27: call("reach", place()); break;
                case 28: call("report", n(0, 8), n(0, 3)); break;
                case 29: call("suspects"); call("liar"); break;
                case 30: case 31: {
                    call("voice", place(), n(0, 3), r.nextBoolean() ? r.nextInt(100) - 50 : n(-9, 9));
                    for (int k = 0; k < 9; k++) call("body", k);
                    break;
                }
                case 32: if (r.nextInt(3) == 0) call("image"); break;
                case 33: if (r.nextInt(3) == 0) call("restore"); break;
                case 34: column(); break;
                case 35: call("tell", n(0, 6)); break;
                case 36: call("count", n(0, 7)); break;
                case 37: call("told", n(1, 6)); break;
                case 38: call("armful", place(), n(0, 8)); break;
                default: call("light", place());
            }
        }

        // WASHING where the smoke goes, so that the HOURS differ.
        void washDays() {
            for (int g = 0; g < 9; g++) {
                int from = r.nextInt(4) == 0 ? n(0, 23) : 0;
                call("washing", g, from, n(from % 24, 23));
            }
            call("hour", place(), n(0, 60));
            call("hour", place(), n(1, 5));
        }

        // REPORTS of one fire, and a lie among them.
        void manyReports() {
            int g = r.nextInt(9);
            int lie = r.nextInt(6);
            for (int k = 0; k < 6; k++) {
                int way = r.nextInt(4);
                int[] there = {g % 3 < 2 ? g + 1 : g, g < 6 ? g + 3 : g, g % 3 > 0 ? g - 1 : g, g > 2 ? g - 3 : g};
                call("report", k == lie ? n(0, 8) : there[way], way);
                call("suspects");
                call("liar");
            }
        }

        void column() {
            int c = n(0, 5);
            if (Model.in(c, 0, 5)) {
                for (Armful b : m.w.columns.get(c)) if (r.nextInt(9) != 0) call("tell", b.number());
            }
            call("check", c);
        }

        void dump() {
            for (int k = 1; k < 7; k++) call("told", k);
            for (int k = 0; k < 8; k++) { call("heap", k); call("count", k); }
            for (int g = 0; g < 9; g++) for (int k = 0; k < 3; k++) call("garden", g, k);
            for (int p = 0; p < 30; p++) for (int k = 0; k < 9; k++) if (k == 0 || m.w.at(p) != null) call("armful", p, k);
            for (int k = 0; k < 5; k++) call("set", k, 0);
        }
    }

    public static void main(String[] args) {
        int runs = args.length > 0 ? Integer.parseInt(args[0]) : 2000;
        long calls = 0;
        for (int k = 0; k < runs; k++) {
            Run run = new Run(k);
            for (int s = 0; s < 80 && run.calls < CALLS_MOST - CALLS_OF_DUMP; s++) run.step();
            run.dump();
            calls += run.calls;
        }
        System.out.println(calls + " calls in " + runs + " runs, " + wrong + " answers are not the model's");
        if (wrong != 0) System.exit(1);
    }
}
