import java.util.ArrayList;
import java.util.List;
import java.util.function.Consumer;
import java.util.function.ToIntBiFunction;
import java.util.function.ToIntFunction;

/**
 * The edges of each call: of each number that it takes the first that is too small or too large and the last that is
 * not; each ERROR, and which of two is asked first; and that a call that answers one changes nothing but what told()
 * tells, or where told: all that can be looked at is looked at on another object, too, on which it was not called.
 */
public final class EdgesOfCallsTest extends Begun {
    private static void taken(String sentence, int want, ToIntFunction<SmokyHeap> call) {
        taken(sentence, Begun::begun, want, call);
    }

    private static void taken(String sentence, Consumer<SmokyHeap> begin, int want, ToIntFunction<SmokyHeap> call) {
        SmokyHeap x = new SmokyHeap();
        begin.accept(x);
        is(sentence, call.applyAsInt(x), want);
        is(sentence + ", told(1)", x.told(1), 0);
    }

    private static void edge(String sentence, int least, int wantLeast, int most, int wantMost,
            ToIntBiFunction<SmokyHeap, Integer> call) {
        edge(sentence, Begun::begun, least, wantLeast, most, wantMost, call);
    }

    /** A number that a call takes: what lies outside of least and most is BEYOND, these two are not. */
    private static void edge(String sentence, Consumer<SmokyHeap> begin, int least, int wantLeast, int most,
            int wantMost, ToIntBiFunction<SmokyHeap, Integer> call) {
        for (int v : new int[] {least - 1, most + 1, MIN, MAX}) {
            refused(sentence + ": " + v, begin, BEYOND, x -> call.applyAsInt(x, v));
        }
        taken(sentence + ": " + least, begin, wantLeast, x -> call.applyAsInt(x, least));
        taken(sentence + ": " + most, begin, wantMost, x -> call.applyAsInt(x, most));
    }

    /** A PLACE that a call takes, of which AIR is NONE: on the ground, above an ARMFUL, high up. */
    private static void place(String sentence, int wantLeast, int wantMost, ToIntBiFunction<SmokyHeap, Integer> call) {
        edge(sentence + " BEYOND: no such PLACE", 0, wantLeast, 29, wantMost, call);
        for (int air : new int[] {3, 12, 28}) refused(sentence + " NONE: AIR at " + air, NONE, x -> call.applyAsInt(x, air));
    }

    // ---- armfuls

    private static void lay() {
        edge("2 lay BEYOND: KIND", 0, 7, 6, 7, (x, v) -> x.lay(v, 1, 9, 9));
        edge("2 lay BEYOND: column", 0, 12, 5, FULL, (x, v) -> x.lay(0, v, 9, 9));
        edge("2 lay BEYOND: STUFF", 1, 7, 999, 7, (x, v) -> x.lay(0, 1, v, 9));
        edge("2 lay BEYOND: WET", 0, 7, 999, 7, (x, v) -> x.lay(0, 1, 9, v));
        for (int column = 0; column < 6; column++) {
            SmokyHeap x = new SmokyHeap();
            for (int row = 0; row < 5; row++) is("2 lay: its PLACE", x.lay(0, column, 1, 0), 6 * row + column);
            is("2 lay FULL: the column has 5", x.lay(0, column, 1, 0), FULL);
            is("2 lay: the next column has none", x.lay(0, (column + 1) % 6, 1, 0), (column + 1) % 6);
        }
        refused("2 lay FULL: the column has 5", FULL, x -> x.lay(0, 5, 9, 9));
        taken("2 lay: the column has 4", 29, x -> {
            x.take(17);
            return x.lay(0, 5, 9, 9);
        });
        int[][] both = {{-1, 9, 9}, {7, 9, 9}, {0, 0, 9}, {0, 1000, 9}, {0, 9, -1}, {0, 9, 1000}};
        for (int[] b : both) refused("2 lay BEYOND ahead of FULL", BEYOND, x -> x.lay(b[0], 5, b[1], b[2]));
    }

    private static void take() {
        place("3 take", 50, 24, (x, v) -> x.take(v));
    }

    private static void armful() {
        place("4 armful", 50, 24, (x, v) -> x.armful(v, 1));
        edge("4 armful BEYOND: what", 0, 0, 8, 60, (x, v) -> x.armful(0, v));
        for (int what : new int[] {-1, 9}) refused("4 armful BEYOND ahead of NONE", BEYOND, x -> x.armful(3, what));
    }

    private static void as() {
        place("5 as", 50, 24, (x, v) -> x.as(v, 0));
        edge("5 as BEYOND: KIND", 0, 50, 6, KIND, (x, v) -> x.as(0, v));
        for (int kind : new int[] {-1, 7}) refused("5 as BEYOND ahead of NONE", BEYOND, x -> x.as(3, kind));
        refused("5 as NONE ahead of KIND", NONE, x -> x.as(3, 6));
        refused("5 as KIND: an ARMFUL as DRY", KIND, x -> x.as(0, 1));
        refused("5 as KIND: DRY as ROSE", KIND, x -> x.as(6, 2));
        refused("5 as KIND: GREEN as LIVED", KIND, x -> x.as(29, 6));
        taken("5 as: of that KIND", 30, x -> x.as(2, 6));
        taken("5 as: of one under it", 30, x -> x.as(2, 5));
        taken("5 as: of one far under it", 30, x -> x.as(2, 0));
    }

    private static void become() {
        place("6 become", 0, 5, (x, v) -> x.become(v, 2));
        edge("6 become BEYOND: KIND", 0, 0, 6, 0, (x, v) -> x.become(0, v));
        for (int kind : new int[] {-1, 7}) refused("6 become BEYOND ahead of NONE", BEYOND, x -> x.become(3, kind));
    }

    private static void light() {
        place("7 light", STATE, 1, (x, v) -> x.light(v));
        refused("7 light STATE: it is LIT", STATE, x -> x.light(0));
        refused("7 light STATE: its WET is above DRYNESS", STATE, x -> x.light(1));
        refused("7 light STATE: it is LIVED", STATE, x -> x.light(2));
        Consumer<SmokyHeap> against = x -> {
            begun(x);
            x.text(1);
            law(x, 1, "l");
            x.take(0);
        };
        refused("7 light STATE: the BYLAW is against it", against, STATE, x -> x.light(29));
        refused("7 light NONE ahead of STATE", against, NONE, x -> x.light(3));
        refused("7 light BEYOND ahead of STATE", against, BEYOND, x -> x.light(30));
        for (int dryness = 208; dryness < 211; dryness++) {
            int dry = dryness;
            taken("7 light: WET 209, DRYNESS " + dry, dry < 209 ? STATE : 1, x -> {
                x.set(3, dry);
                return x.light(1);
            });
        }
        warmAlready();
    }

    // A DAMP one that is not LIT, of WARM 2420: a ROSE of which 500 burn has 4100, less 410 and 1; 999 of water; as
    // DAMP nothing of it burns, WET 999 less 134 puts it out, and WARM is less by 269 and 1.
    private static SmokyHeap warm() {
        SmokyHeap x = new SmokyHeap();
        x.lay(2, 0, 999, 0);
        x.light(0);
        law(x, 0, "500");
        x.minutes(1);
        x.pour(0, 999);
        x.become(0, 4);
        law(x, 0, "1");
        x.minutes(1);
        x.set(3, 999);
        return x;
    }

    private static void warmAlready() {
        SmokyHeap x = warm();
        is("7 light: it went out", x.armful(0, 5), 0);
        is("7 light: WARM is far above 100", x.armful(0, 4), 2420);
        is("7 light: it may be LIT again", x.light(0), 1);
        is("7 light: WARM stays", x.armful(0, 4), 2420);
        for (int warm = 99; warm < 102; warm++) {
            SmokyHeap y = warm();
            y.pour(0, 999);
            y.pour(0, 999);
            y.pour(0, 422 - warm);
            is("7 light: WARM ahead of it", y.armful(0, 4), warm);
            is("7 light: LIT", y.light(0), 1);
            is("7 light: WARM 100, if that is less", y.armful(0, 4), Math.max(warm, 100));
        }
    }

    private static void fork() {
        place("8 fork", 3, 3, (x, v) -> x.fork(v, 1));
        edge("8 fork BEYOND: v", 0, 7, 9, 7, (x, v) -> x.fork(6, v));
        for (int v : new int[] {-1, 10}) refused("8 fork BEYOND ahead of NONE", BEYOND, x -> x.fork(3, v));
        for (int v : new int[] {0, 9}) {
            taken("8 fork: LOOSE becomes " + v, v, x -> {
                x.fork(6, v);
                return x.armful(6, 3);
            });
        }
    }

    private static void pour() {
        place("9 pour", 45, 8, (x, v) -> x.pour(v, 5));
        edge("9 pour BEYOND: water", 0, 40, 999, 999, (x, v) -> x.pour(0, v));
        for (int v : new int[] {-1, 1000}) refused("9 pour BEYOND ahead of NONE", BEYOND, x -> x.pour(3, v));
        // WET 40, WARM 100.
        int[][] due = {{0, 40, 100}, {99, 139, 1}, {100, 140, 0}, {101, 141, 0}, {958, 998, 0}, {959, 999, 0}, {960, 999, 0}};
        for (int[] d : due) {
            SmokyHeap x = new SmokyHeap();
            begun(x);
            is("9 pour: WET is that more, 999 at most", x.pour(0, d[0]), d[1]);
            is("9 pour: WET is what it answers", x.armful(0, 2), d[1]);
            is("9 pour: WARM is that less, 0 at least", x.armful(0, 4), d[2]);
            is("9 pour: it is LIT still", x.armful(0, 5), 1);
        }
    }

    private static void set() {
        edge("10 set BEYOND: what", 0, 903, 4, 3, (x, v) -> x.set(v, 0));
        int[] was = {903, 12, 0, 80, 3};
        int[] most = {1439, 99, 3, 999, 8};
        String[] names = {"CLOCK", "WIND", "WAY", "DRYNESS", "HOME"};
        for (int k = 0; k < 5; k++) {
            int what = k;
            edge("10 set BEYOND: " + names[k], 0, was[k], most[k], was[k], (x, v) -> x.set(what, v));
            for (int v : new int[] {0, most[k]}) {
                taken("10 set: becomes " + v, v, x -> {
                    x.set(what, v);
                    return x.set(what, 1);
                });
            }
        }
    }

    // ---- texts

    private static void feeding() {
        edge("11 feed BEYOND: n", 1, 3, 8, 10, (x, v) -> x.feed(0, v));
        Consumer<SmokyHeap> with59 = x -> {
            begun(x);
            feed(x, "1+".repeat(28) + "1");
        };
        Consumer<SmokyHeap> with60 = x -> {
            begun(x);
            feed(x, "1+".repeat(29));
        };
        for (int n : new int[] {1, 2, 8}) refused("11 feed FULL: 60 are there", with60, FULL, x -> x.feed(0, n));
        for (int n : new int[] {2, 3, 8}) refused("11 feed FULL: 59 are there", with59, FULL, x -> x.feed(0, n));
        for (int n : new int[] {-1, 0, 9}) refused("11 feed BEYOND ahead of FULL", with60, BEYOND, x -> x.feed(0, n));
        taken("11 feed: the 60th", with59, 60, x -> x.feed('1', 1));
        SmokyHeap y = new SmokyHeap();
        feed(y, "1+".repeat(26));
        is("11 feed: eight up to the 60th", y.feed(0, 8), 60);
        is("11 feed FULL: the 61st", y.feed('1', 1), FULL);
        is("11 feed: THE TAPE is as it was", y.text(0), -10 - 52);
        is("11 feed: an empty TAPE takes the first again", y.feed('7', 1), 1);
        bytes();
    }

    private static void bytes() {
        // "h=15&w=5", the lowest first.
        SmokyHeap x = new SmokyHeap();
        is("11 feed: all eight", x.feed(0x353d772635313d68L, 8), 8);
        is("11 feed: are a TEXT", x.text(1), 1);
        is("11 feed: the lowest first", x.may(), 1);
        x.set(1, 4);
        is("11 feed: the highest last", x.may(), 0);
        for (int n = 1; n < 9; n++) {
            is("11 feed: n bytes", x.feed(0x6868686868686868L, n), n);
            is("11 feed: a NAME, and n - 1 behind it", x.text(1), n == 1 ? 1 : -11);
        }
        // A word below 0: its highest byte is 176, and the first four digits are a NUMBER.
        is("11 feed: a word below 0", x.feed(0xb030303030303030L, 8), 8);
        is("11 feed: its fifth byte", x.text(1), -10 - 4);
        is("11 feed: a word below 0", x.feed(0xb12b312b312b312bL, 8), 8);
        is("11 feed: its first byte", x.text(1), -10);
        is("11 feed: a word below 0", x.feed(0xb12b312b312b3131L, 8), 8);
        is("11 feed: its last byte", x.text(1), -10 - 7);
        is("11 feed: nothing from ahead", x.feed('h', 1) + x.text(1), 2);
    }

    private static void text() {
        // THE TAPE is "7+".
        edge("12 text BEYOND (THE TAPE stays): USE", 0, -12, 2, -12, (x, v) -> x.text(v));
        for (int u = 0; u < 3; u++) {
            int use = u;
            refused("12 text: a FAULT is no ERROR, the one ahead stays", -12, x -> {
                int answer = x.text(use);
                feed(x, "7+");
                return answer;
            });
            SmokyHeap x = new SmokyHeap();
            is("12 text: an empty TAPE ends too early", x.text(use), -10);
            is("12 text: a FAULT", law(x, use, "1+"), -12);
            is("12 text: THE TAPE is empty, too", x.count(4), 0);
            is("12 text: there is none", x.untell(use), 0);
            is("12 text: a TEXT", law(x, use, "1+1"), 1);
            is("12 text: THE TAPE is empty then", x.count(4), 0);
            is("12 text: the other USES have none", x.untell((use + 1) % 3) + x.untell((use + 2) % 3), 0);
            is("12 text: this one has one", x.untell(use), 1);
        }
        SmokyHeap y = new SmokyHeap();
        law(y, 1, "0");
        law(y, 1, "1+");
        is("12 text: the one ahead stays", y.may(), 0);
        is("12 text: in place of one ahead", law(y, 1, "1"), 1);
        is("12 text: the new one", y.may(), 1);
    }

    private static void untell() {
        edge("13 untell BEYOND: USE", 0, 1, 2, 1, (x, v) -> x.untell(v));
        for (int u = 0; u < 3; u++) {
            SmokyHeap x = new SmokyHeap();
            is("13 untell: there was none", x.untell(u), 0);
            begun(x);
            is("13 untell: there was one", x.untell(u), 1);
            is("13 untell: there is none any more", x.untell(u), 0);
            is("13 untell: the others stay", x.untell((u + 1) % 3) + x.untell((u + 2) % 3), 2);
            is("13 untell: THE TAPE stays", x.count(4), 2);
        }
    }

    // ---- minutes, gardens

    private static void minutes() {
        edge("14 minutes BEYOND: n", 1, 4, 200, 203, (x, v) -> x.minutes(v));
        edge("15 gusts BEYOND: n", 1, 4, 200, 203, (x, v) -> x.gusts(v));
        lastMinutes("14 minutes", (x, n) -> x.minutes(n));
        lastMinutes("15 gusts", (x, n) -> x.gusts(n));
    }

    private static SmokyHeap old() {
        SmokyHeap x = new SmokyHeap();
        for (int k = 0; k < 499; k++) x.minutes(200);
        return x;
    }

    private static void lastMinutes(String call, ToIntBiFunction<SmokyHeap, Integer> pass) {
        SmokyHeap x = old();
        is(call + " STATE: far above 99999", pass.applyAsInt(x, 200), STATE);
        is(call + " STATE: it is told", x.told(3), 1);
        is(call + " STATE: MINUTES stay", x.count(1), 99800);
        is(call + " STATE: CLOCK stays", x.count(3), (900 + 99800) % 1440);
        is(call + " STATE: z stays", x.count(7), 1);
        is(call + ": just 99999", pass.applyAsInt(x, 199), 99999);
        is(call + " STATE: 99999 and 1", pass.applyAsInt(x, 1), STATE);
        is(call + " STATE: MINUTES stay", x.count(1), 99999);
        SmokyHeap y = old();
        y.minutes(198);
        is(call + " STATE: 99998 and 2", pass.applyAsInt(y, 2), STATE);
        is(call + ": 99998 and 1", pass.applyAsInt(y, 1), 99999);
        for (int n : new int[] {201, MAX, 0, -1}) is(call + " BEYOND ahead of STATE", pass.applyAsInt(y, n), BEYOND);
        is(call + " BEYOND: it is told", y.told(1), 4);
    }

    private static void seed() {
        for (int v : new int[] {MIN, MAX, 0, -1, LOW, BEYOND, PARTED}) {
            SmokyHeap x = new SmokyHeap();
            is("16 seed: what it was at first", x.seed(v), 1);
            is("41 count: z, any number", x.count(7), v);
            is("16 seed: what it was, any number", x.seed(5), v);
            for (int k = 1; k < 7; k++) is("42 told: z is no ERROR", x.told(k), 0);
        }
    }

    private static void washing() {
        edge("17 washing BEYOND: GARDEN", 0, 2, 8, 2, (x, v) -> x.washing(v, 2, 3));
        edge("17 washing BEYOND: from", 0, 24, 23, 1, (x, v) -> x.washing(5, v, 23));
        edge("17 washing BEYOND: to", 0, 1, 23, 24, (x, v) -> x.washing(5, 0, v));
        refused("17 washing BEYOND, though from is above to", BEYOND, x -> x.washing(5, 24, 3));
        refused("17 washing BEYOND, though from is above to", BEYOND, x -> x.washing(5, 3, -1));
        int[][] due = {{7, 7, 1, 1 << 7}, {7, 8, 2, 3 << 7}, {8, 7, 0, 0}, {23, 0, 0, 0}, {0, 0, 1, 1},
            {23, 23, 1, 1 << 23}, {0, 23, 24, 0xffffff}, {21, 23, 3, 7 << 21}, {1, 0, 0, 0}};
        for (int[] d : due) {
            SmokyHeap x = new SmokyHeap();
            x.washing(4, 6, 7);
            is("17 washing: how many HOURS, both too; from above to: none", x.washing(4, d[0], d[1]), d[2]);
            is("17 washing: these bits, and none other", x.garden(4, 2), d[3]);
            is("17 washing: no other GARDEN", x.garden(3, 2) + x.garden(5, 2), 0);
        }
    }

    private static void garden() {
        edge("18 garden BEYOND: GARDEN", 0, 0, 8, 0, (x, v) -> x.garden(v, 2));
        edge("18 garden BEYOND: what", 0, 7, 2, 1 << 15, (x, v) -> x.garden(5, v));
        SmokyHeap x = new SmokyHeap();
        for (int g = 0; g < 9; g++) x.washing(g, g, g);
        for (int g = 0; g < 9; g++) is("18 garden: each of the nine", x.garden(g, 2), 1 << g);
    }

    private static void heap() {
        edge("19 heap BEYOND: what", 0, 324, 7, 299, (x, v) -> x.heap(v));
        int[] all = {324, 1, 100, 1, 20, 70, 5, 299};
        for (int k = 0; k < 8; k++) {
            int what = k;
            taken("19 heap: what " + k, all[k], x -> x.heap(what));
            is("19 heap: an empty one, what " + k, new SmokyHeap().heap(k), 0);
        }
        SmokyHeap x = new SmokyHeap();
        for (int p = 0; p < 30; p++) x.lay(0, p % 6, 999, 999);
        x.set(3, 999);
        for (int p = 0; p < 30; p++) is("7 light: each of the fullest", x.light(p), 1);
        int[] fullest = {30 * 999, 30, 3000, 0, 0, 0, 5, 30 * 999};
        for (int k = 0; k < 8; k++) is("19 heap: the fullest one, what " + k, x.heap(k), fullest[k]);
        is("41 count: ARMFULS of the fullest", x.count(0), 30);
        for (int column = 0; column < 6; column++) {
            SmokyHeap y = new SmokyHeap();
            pile(y, 0, column, 2);
            is("19 heap: the highest column is " + column, y.heap(6), 2);
        }
    }

    private static void may() {
        is("20 may: without a BYLAW", new SmokyHeap().may(), 1);
        String[] texts = {"0", "1", "9999", "0-1", "8192*8192*32", "l", "n", "!n"};
        int[] lets = {0, 1, 1, 1, 1, 0, 0, 1};
        for (int k = 0; k < texts.length; k++) {
            SmokyHeap x = new SmokyHeap();
            law(x, 1, texts[k]);
            is("20 may: if it isn't 0: " + texts[k], x.may(), lets[k]);
        }
    }

    // ---- ahead

    /** Nothing is LIT or warm: a HEAP that stays as it is. */
    private static void cold(SmokyHeap x) {
        begun(x);
        x.take(0);
    }

    private static void then() {
        edge("21 then BEYOND: n", EdgesOfCallsTest::cold, 0, 274, 60, 274, (x, v) -> x.then(v, 0));
        edge("21 then BEYOND: what", EdgesOfCallsTest::cold, 0, 274, 7, 259, (x, v) -> x.then(60, v));
        refused("21 then BEYOND: both", BEYOND, x -> x.then(61, 8));
        edge("22 gardenThen BEYOND: n", 0, 1 << 15, 60, 1 << 15, (x, v) -> x.gardenThen(v, 5, 2));
        edge("22 gardenThen BEYOND: GARDEN", 0, 0, 8, 0, (x, v) -> x.gardenThen(60, v, 2));
        edge("22 gardenThen BEYOND: what", 0, 7, 2, 1 << 15, (x, v) -> x.gardenThen(0, 5, v));
    }

    private static void hour() {
        place("23 hour", 0, 0, (x, v) -> x.hour(v, 1));
        edge("23 hour BEYOND: n", 0, 0, 60, 0, (x, v) -> x.hour(0, v));
        for (int n : new int[] {-1, 61}) refused("23 hour BEYOND ahead of NONE", BEYOND, x -> x.hour(3, n));
    }

    private static void spot() {
        Consumer<SmokyHeap> last = x -> {
            pile(x, 0, 5, 5);
            for (int k = 0; k < 4; k++) x.become(5 + 6 * k, 6);
        };
        edge("24 spot BEYOND: n", last, 0, 5, 60, 29, (x, v) -> x.spot(v));
        for (int n : new int[] {-1, 61}) refused("24 spot BEYOND: n", BEYOND, x -> x.spot(n));
        for (int n : new int[] {0, 60}) refused("24 spot NONE: there are no ARMFULS", x -> x.tell(1), NONE, x -> x.spot(n));
        for (int n : new int[] {-1, 61}) refused("24 spot BEYOND ahead of NONE", x -> x.tell(1), BEYOND, x -> x.spot(n));
        for (int column = 0; column < 6; column++) {
            SmokyHeap x = new SmokyHeap();
            x.lay(6, column, 1, 999);
            is("24 spot: the only ARMFUL, of which nothing burns", x.spot(60), column);
        }
    }

    private static void out() {
        edge("25 out BEYOND: n", EdgesOfCallsTest::cold, 0, 0, 60, 0, (x, v) -> x.out(v));
        refused("25 out NONE: 950 doesn't do", NONE, x -> x.out(0));
        for (int n : new int[] {-1, 61}) refused("25 out BEYOND ahead of NONE", BEYOND, x -> x.out(n));
    }

    private static void catches() {
        edge("26 catches BEYOND: no such PLACE", 0, 0, 29, NONE, (x, v) -> x.catches(v, 0));
        edge("26 catches BEYOND: n", 0, 0, 60, 0, (x, v) -> x.catches(0, v));
        refused("26 catches NONE: it is not LIT now", NONE, x -> x.catches(29, 0));
        for (int air : new int[] {3, 12, 28}) refused("26 catches NONE: AIR", NONE, x -> x.catches(air, 60));
        for (int n : new int[] {-1, 61}) refused("26 catches BEYOND ahead of NONE", BEYOND, x -> x.catches(3, n));
    }

    private static void reach() {
        place("27 reach", 4, 6, (x, v) -> x.reach(v));
    }

    // ---- reports

    private static void reports() {
        edge("28 report BEYOND: GARDEN", 0, 2, 8, 2, (x, v) -> x.report(v, 0));
        edge("28 report BEYOND: WAY", 0, 2, 3, 2, (x, v) -> x.report(4, v));
        Consumer<SmokyHeap> full = x -> {
            begun(x);
            for (int k = 2; k < 12; k++) x.report(4, 1);
        };
        refused("28 report FULL: 12 are there", full, FULL, x -> x.report(4, 1));
        for (int g : new int[] {-1, 9}) refused("28 report BEYOND ahead of FULL", full, BEYOND, x -> x.report(g, 1));
        for (int w : new int[] {-1, 4}) refused("28 report BEYOND ahead of FULL", full, BEYOND, x -> x.report(4, w));
        SmokyHeap y = new SmokyHeap();
        for (int k = 0; k < 12; k++) is("28 report: its number", y.report(k % 9, k % 4), k);
        is("28 report FULL: the 13th", y.report(4, 1), FULL);
        is("41 count: REPORTS", y.count(2), 12);
        refused("30 liar NONE: there are no REPORTS", x -> x.tell(1), NONE, x -> x.liar());
        is("29 suspects: no REPORT speaks against any", new SmokyHeap().suspects(), 511);
        liars();
    }

    private static void liars() {
        SmokyHeap x = new SmokyHeap();
        for (int k = 0; k < 11; k++) x.report(4, 1);
        is("30 liar: of like ones the least", x.liar(), 0);
        // From 0, 1, 2 alone: it is against the others, 1 and 4.
        x.report(0, 2);
        is("29 suspects: but one is left", x.suspects(), 1 << 1);
        is("30 liar: the last of 12", x.liar(), 11);
        SmokyHeap y = new SmokyHeap();
        y.report(8, 3);
        is("30 liar: the only one", y.liar(), 0);
        // From 8 alone, from 6, 7, 8, and from 0, 1, 2: without the last one 8 is left, without another one none.
        y.report(6, 2);
        y.report(2, 0);
        is("29 suspects: none is left", y.suspects(), 0);
        is("30 liar: the one that leaves most", y.liar(), 2);
        // Without the second one 2 and 5 are left, without the first one 8, without the last one none.
        SmokyHeap v = new SmokyHeap();
        v.report(5, 1);
        v.report(7, 2);
        v.report(8, 1);
        is("30 liar: not the last that differs", v.liar(), 1);
        // Three that each tell of another GARDEN: whichever is left out, none is left.
        SmokyHeap z = new SmokyHeap();
        z.report(0, 0);
        z.report(2, 2);
        z.report(8, 3);
        is("30 liar: of like ones that leave none the least", z.liar(), 0);
    }

    // ---- voices, sheets, images, what is told

    private static void voice() {
        place("31 voice", 51, 25, (x, v) -> x.voice(v, 0, 1));
        edge("31 voice BEYOND: VOICE", 0, 51, 3, 0, (x, v) -> x.voice(0, v, 1));
        for (int v : new int[] {-1, 4}) refused("31 voice BEYOND ahead of NONE", BEYOND, x -> x.voice(3, v, 1));
        // STUFF 4 in PLACE 4. THE TRACE of it is put right again by the voice() that begun() has.
        refused("31 voice PARTED changes nothing but THE TRACE", PARTED, x -> {
            int answer = x.voice(4, 3, 7);
            x.voice(0, 2, 7);
            return answer;
        });
        for (int k = 1; k < 7; k++) {
            SmokyHeap x = new SmokyHeap();
            x.lay(0, 0, 50, 0);
            is("31 voice: any number", x.voice(0, 0, LOW - k - 50), LOW - k);
            is("42 told: one that looks like an ERROR is none", x.told(k), 0);
        }
    }

    private static void body() {
        // THE TRACE is 12, 11, 10.
        for (int i : new int[] {-1, 3, 4, 29, 30, 31, MIN, MAX}) {
            refused("32 body NONE: there is none such", NONE, x -> x.body(i));
        }
        taken("32 body: the first", 12, x -> x.body(0));
        taken("32 body: the last", 10, x -> x.body(2));
        is("32 body NONE: no voice() yet", new SmokyHeap().body(0), NONE);
    }

    private static void sheets() {
        edge("33 sheet BEYOND: no such SHEET", 0, 1, 3, 1, (x, v) -> x.sheet(v, 8, 1));
        for (int bits : new int[] {-32, -1, 1, 7, 9, 15, 17, 24, 31, 33, 64, MIN, MAX}) {
            refused("33 sheet BEYOND: bits", BEYOND, x -> x.sheet(0, bits, 1));
            refused("33 sheet BEYOND (bits) ahead of STATE", BEYOND, x -> x.sheet(0, bits, -1));
        }
        for (int bits : new int[] {8, 16, 32}) {
            for (int n : new int[] {-1, -2, MIN}) refused("33 sheet STATE: n is below 0", STATE, x -> x.sheet(0, bits, n));
            for (int n : new int[] {25, 26, MAX}) refused("33 sheet BEYOND: n", BEYOND, x -> x.sheet(0, bits, n));
            for (int s : new int[] {-1, 4}) refused("33 sheet BEYOND ahead of STATE", BEYOND, x -> x.sheet(s, bits, -1));
            sizes(bits);
        }
        for (int n : new int[] {0, -1, 25, MIN, MAX}) {
            SmokyHeap x = new SmokyHeap();
            begun(x);
            is("33 sheet: 0 bits, n doesn't matter", x.sheet(0, 0, n), 1);
            is("33 sheet: it is missing", x.put(0, 0, 1), NONE);
            is("33 sheet: the others are not", x.put(1, 3, 1) + x.put(2, 1, 1), 2);
        }
    }

    private static void sizes(int bits) {
        for (int n : new int[] {0, 1, 23, 24}) {
            SmokyHeap x = new SmokyHeap();
            is("33 sheet: n numbers", x.sheet(3, bits, n), 1);
            is("33 sheet: the last of n", n == 0 ? 1 : x.put(3, n - 1, 1), 1);
            is("33 sheet BEYOND: no number n", x.put(3, n, 1), BEYOND);
            is("36 armfuls: STUFF 0 is refused", x.armfuls(3), 0);
            for (int i = 0; i < n; i++) x.put(3, i, 1);
            is("33 sheet: one anew", x.sheet(3, bits, 24), 1);
            is("33 sheet: all 0: lay() refuses STUFF 0", x.armfuls(3), 0);
            for (int i = 2; i < 24; i += 4) x.put(3, i, 5);
            is("33 sheet: all 0: KIND, column, WET", x.armfuls(3), 5);
            is("33 sheet: all 0", x.heap(0) + x.heap(7) + x.armful(0, 0) + x.armful(24, 0), 25);
        }
    }

    private static void put() {
        edge("34 put BEYOND: no such SHEET", 0, 1, 3, NONE, (x, v) -> x.put(v, 0, 0));
        edge("34 put BEYOND: no such number", 0, 1, 7, 1, (x, v) -> x.put(0, v, 0));
        for (int i : new int[] {0, -1, 24, MIN, MAX}) {
            refused("34 put NONE (missing) ahead of BEYOND", NONE, x -> x.put(3, i, 0));
            refused("34 put BEYOND (SHEET) ahead of the number's", BEYOND, x -> x.put(4, i, 0));
        }
    }

    /** A SHEET of five numbers with the bits of SHEET 0, which has eight. */
    private static void pair(SmokyHeap x) {
        begun(x);
        sheet(x, 3, 16, 1, 2, 3, 4, 5);
    }

    private static void move() {
        edge("35 move BEYOND: no such SHEET", 0, 1, 3, NONE, (x, v) -> x.move(v, 0, 0, 0, 1));
        edge("35 move BEYOND: no such other SHEET", 0, 1, 3, NONE, (x, v) -> x.move(0, 0, v, 0, 1));
        refused("35 move BEYOND ahead of NONE", BEYOND, x -> x.move(3, 0, 4, 0, 1));
        refused("35 move BEYOND ahead of NONE", BEYOND, x -> x.move(4, 0, 3, 0, 1));
        refused("35 move NONE: both are missing", NONE, x -> x.move(3, 0, 3, 0, 0));
        int[][] like = {{0, 1}, {1, 0}, {0, 2}, {2, 0}, {1, 2}, {2, 1}};
        for (int[] s : like) refused("35 move KIND: unlike bits", KIND, x -> x.move(s[0], 0, s[1], 0, 1));
        int[][] bad = {{-1, 0, 1}, {0, -1, 1}, {0, 0, -1}, {8, 0, 1}, {0, 5, 1}, {0, 0, 6}, {4, 0, 5}, {0, 3, 3}, {9, 0, 0},
            {0, 6, 0}, {-1, 0, 0}, {0, -1, 0}, {MAX, 0, 1}, {0, MAX, 1}, {1, 0, MAX}, {0, 1, MAX}, {MAX, MAX, MAX},
            {MIN, 0, 1}, {0, MIN, 1}, {0, 0, MIN}, {MIN, 0, MIN}, {1, 1, MIN}, {-1, -1, 1}, {9, 9, -1}};
        for (int[] b : bad) {
            refused("35 move BEYOND: " + List.of(b[0], b[1], b[2]), EdgesOfCallsTest::pair, BEYOND,
                    x -> x.move(0, b[0], 3, b[1], b[2]));
            refused("35 move NONE ahead of BEYOND", NONE, x -> x.move(0, b[0], 3, b[1], b[2]));
            refused("35 move KIND ahead of BEYOND", KIND, x -> x.move(0, b[0], 1, b[1], b[2]));
        }
        int[][] good = {{7, 0, 1}, {0, 4, 1}, {3, 0, 5}, {8, 5, 0}, {0, 0, 0}, {0, 0, 5}};
        for (int[] g : good) {
            taken("35 move: n", EdgesOfCallsTest::pair, g[2], x -> x.move(0, g[0], 3, g[1], g[2]));
        }
        taken("35 move: all of a SHEET to itself", 8, x -> x.move(0, 0, 0, 0, 8));
        moved();
    }

    // The numbers are 0, 1, 10, 11, 2, 3, 12, 13; of each row i, j, n, and what they are then.
    private static void moved() {
        int[][] due = {{0, 4, 4, 0, 1, 10, 11, 0, 1, 10, 11}, {4, 0, 4, 2, 3, 12, 13, 2, 3, 12, 13},
            {0, 2, 6, 0, 1, 0, 1, 10, 11, 2, 3}, {2, 0, 6, 10, 11, 2, 3, 12, 13, 12, 13}, {0, 0, 8, 0, 1, 10, 11, 2, 3, 12, 13},
            {7, 0, 1, 13, 1, 10, 11, 2, 3, 12, 13}, {0, 7, 1, 0, 1, 10, 11, 2, 3, 12, 0}, {8, 0, 0, 0, 1, 10, 11, 2, 3, 12, 13}};
        for (int[] d : due) {
            SmokyHeap x = new SmokyHeap();
            sheet(x, 0, 8, 0, 1, 10, 11, 2, 3, 12, 13);
            is("35 move: n of the same", x.move(0, d[0], 0, d[1], d[2]), d[2]);
            for (int i = 0; i < 8; i++) numberIs("35 move: as they all were", x, 0, 8, i, d[3 + i]);
        }
        SmokyHeap x = new SmokyHeap();
        pair(x);
        is("35 move: to another one", x.move(0, 5, 3, 1, 3), 3);
        int[] other = {1, 1, 7, 8, 5};
        for (int i = 0; i < 5; i++) numberIs("35 move: the other one", x, 3, 16, i, other[i]);
        for (int i = 5; i < 8; i++) numberIs("35 move: the one they come from stays", x, 0, 16, i, other[i - 4]);
    }

    // Number i of a SHEET by the STUFF of an ARMFUL that is laid from SHEET 2; of STUFF 0 none is laid.
    private static void numberIs(String sentence, SmokyHeap x, int sheet, int bits, int i, int want) {
        sheet(x, 2, bits, 0, 2, 0, 0);
        x.move(sheet, i, 2, 2, 1);
        int laid = x.armfuls(2);
        is(sentence + ", number " + i, laid == 1 ? x.take(topOf(x, 2)) : 0, want);
    }

    private static int topOf(SmokyHeap x, int column) {
        int top = column;
        while (top + 6 < 30 && x.armful(top + 6, 0) >= 0) top += 6;
        return top;
    }

    private static void armfuls() {
        edge("36 armfuls BEYOND: no such SHEET", 0, 2, 3, NONE, (x, v) -> x.armfuls(v));
        for (int n = 0; n <= 24; n++) {
            int[] numbers = new int[n];
            for (int i = 0; i < n; i++) numbers[i] = i % 4 == 1 ? i / 4 : i % 4 == 2 ? 9 : 0;
            SmokyHeap x = new SmokyHeap();
            sheet(x, 1, 32, numbers);
            is("36 armfuls: up to the first that isn't whole, of " + n + " numbers", x.armfuls(1), n / 4);
            is("36 armfuls: so many lie there", x.count(0), n / 4);
            for (int k = 1; k < 7; k++) is("36 armfuls: no ERROR then", x.told(k), 0);
        }
        int[][] refusedByLay = {{7, 0, 1, 0}, {-1, 0, 1, 0}, {0, 6, 1, 0}, {0, -1, 1, 0}, {0, 0, 0, 0}, {0, 0, 1000, 0},
            {0, 0, 1, -1}, {0, 0, 1, 1000}, {0, 5, 1, 0}};
        for (int[] r : refusedByLay) {
            SmokyHeap x = new SmokyHeap();
            pile(x, 0, 5, 5);
            sheet(x, 0, 16, 0, 1, 1, 0, r[0], r[1], r[2], r[3], 0, 2, 1, 0);
            is("36 armfuls: up to the first that lay() would refuse", x.armfuls(0), 1);
            is("36 armfuls: what is behind it does not come", x.count(0), 6);
            for (int k = 1; k < 7; k++) is("36 armfuls: no ERROR then", x.told(k), 0);
        }
        SmokyHeap y = new SmokyHeap();
        sheet(y, 0, 16, 6, 5, 999, 999, 0, 0, 1, 0);
        is("36 armfuls: the most that lay() takes, and the least", y.armfuls(0), 2);
        is("36 armfuls: STUFF", y.armful(5, 1) + y.armful(0, 1), 1000);
    }

    private static void image() {
        Consumer<SmokyHeap> without = x -> {
            x.lay(0, 0, 50, 40);
            x.minutes(1);
        };
        refused("38 restore NONE: there is none", without, NONE, x -> x.restore());
        SmokyHeap x = new SmokyHeap();
        is("37 image: of a new object", x.image(), 1);
        begun(x);
        is("37 image: how often, the one in begun() too", x.image(), 3);
        is("38 restore: MINUTES so far", x.restore(), 3);
        is("38 restore: the IMAGE stays", x.restore(), 3);
        is("37 image: restore() is none", x.image(), 4);
        SmokyHeap y = new SmokyHeap();
        y.image();
        begun(y);
        y.restore();
        is("38 restore: the one of begun(), in place of one ahead", y.count(0), 10);
        is("38 restore: what the SETTINGS were", y.set(3, 0), 60);
        notOfTheImage();
        allOfTheImage();
    }

    private static void allOfTheImage() {
        Consumer<SmokyHeap> kept = x -> {
            begun(x);
            x.image();
        };
        refused("38 restore: all is as the IMAGE has it", kept, 3, x -> {
            x.minutes(1);
            x.take(0);
            x.lay(5, 3, 7, 7);
            x.fork(1, 8);
            x.pour(2, 9);
            x.become(4, 0);
            x.light(4);
            x.gusts(2);
            x.washing(4, 3, 5);
            x.washing(5, 3, 5);
            for (int k = 0; k < 5; k++) x.set(k, 1);
            feed(x, "9");
            x.text(2);
            law(x, 0, "1");
            law(x, 1, "0");
            x.untell(2);
            feed(x, "555");
            x.report(7, 2);
            x.report(1, 1);
            x.seed(5);
            x.check(0);
            x.tell(3);
            x.tell(4);
            x.tell(5);
            return x.restore();
        });
        refused("38 restore: the IMAGE of an empty HEAP", SmokyHeap::image, 0, x -> {
            x.lay(0, 0, 5, 0);
            x.light(0);
            x.minutes(9);
            x.report(4, 1);
            law(x, 1, "0");
            feed(x, "1");
            x.tell(1);
            x.seed(8);
            return x.restore();
        });
    }

    private static void notOfTheImage() {
        SmokyHeap x = new SmokyHeap();
        begun(x);
        x.told(7);
        x.voice(2, 0, 1);
        x.sheet(0, 8, 2);
        is("37 image: what told() tells stays", x.image() + x.told(1), 3);
        x.told(8);
        x.voice(2, 3, 1);
        x.sheet(0, 32, 1);
        is("38 restore: MINUTES so far", x.restore(), 3);
        is("37 image: what told() tells is not kept", x.told(1), 2);
        is("37 image: THE TRACE is not kept", x.body(0), 13);
        is("37 image: SHEETS are not kept", x.put(0, 1, 1), BEYOND);
        is("37 image: how often this was done is not kept", x.image(), 3);
    }

    /**
     * What only tells, or looks AHEAD, leaves all as it was. By WIND of 12 and LOOSE 3, 8 burn in PLACE 0 in the next
     * MINUTE; of 20 of smoke 12 lie, 6 in GARDEN 3; of 32 and no less of WARM, whatever is poured, 25 are not given.
     */
    private static void telling() {
        refused("4 armful changes nothing", 50, x -> x.armful(0, 1));
        refused("5 as changes nothing", 50, x -> x.as(0, 0));
        refused("18 garden changes nothing", 14, x -> x.garden(4, 0));
        refused("19 heap changes nothing", 20, x -> x.heap(4));
        refused("20 may changes nothing", 1, x -> x.may());
        refused("21 then changes nothing", 28, x -> x.then(1, 4));
        refused("22 gardenThen changes nothing", 17, x -> x.gardenThen(1, 4, 0));
        refused("23 hour changes nothing", 0, x -> x.hour(29, 60));
        refused("24 spot changes nothing", 0, x -> x.spot(0));
        refused("25 out changes nothing", 700, x -> x.out(1));
        refused("26 catches changes nothing", 0, x -> x.catches(0, 60));
        refused("27 reach changes nothing", 4, x -> x.reach(0));
        refused("29 suspects changes nothing", 1 << 4, x -> x.suspects());
        refused("30 liar changes nothing", 1, x -> x.liar());
        refused("32 body changes nothing", 12, x -> x.body(0));
        refused("41 count changes nothing", 77, x -> x.count(7));
        refused("42 told changes nothing", 0, x -> x.told(1));
    }

    private static void tell() {
        Consumer<SmokyHeap> with24 = x -> {
            begun(x);
            for (int k = 2; k < 24; k++) x.tell(5);
        };
        refused("39 tell FULL: 24 wait", with24, FULL, x -> x.tell(0));
        SmokyHeap x = new SmokyHeap();
        for (int k = 1; k < 25; k++) is("39 tell: how many", x.tell(MIN + k), k);
        is("39 tell FULL: the 25th", x.tell(0), FULL);
        is("40 check: any number waits", x.check(0), 1);
        is("39 tell: the first again", x.tell(MAX), 1);
    }

    private static void check() {
        Consumer<SmokyHeap> noneWait = x -> {
            begun(x);
            x.check(0);
        };
        for (int column : new int[] {-1, 6, MIN, MAX}) {
            refused("40 check BEYOND (none wait then, too)", Begun::begun, noneWait, BEYOND, x -> x.check(column));
        }
        // 0 and 1 wait, and column 0 is of these; column 5 is of five GREEN ones.
        taken("40 check: the first column", 0, x -> x.check(0));
        taken("40 check: the last column", 1, x -> x.check(5));
        taken("40 check: none wait then", 0, x -> {
            x.check(0);
            return x.count(5);
        });
        for (int many = 0; many < 25; many++) {
            SmokyHeap x = new SmokyHeap();
            pile(x, 5, 3, 5);
            for (int k = 0; k < many; k++) x.tell(5);
            is("40 check: one lacks, or is too many", x.check(3), many == 5 ? 0 : 1 + Math.min(many, 5));
            is("40 check: none wait then", x.count(5), 0);
            for (int k = 0; k < many; k++) x.tell(5);
            is("40 check: an empty column", x.check(2), many == 0 ? 0 : 1);
        }
        for (int other = 0; other < 5; other++) {
            SmokyHeap x = new SmokyHeap();
            pile(x, 5, 3, 5);
            for (int k = 0; k < 5; k++) x.tell(k == other ? 0 : 5);
            is("40 check: 1 and the place of the first that isn't so", x.check(3), 1 + other);
            for (int k = 0; k < 5; k++) x.tell(k >= other ? 6 : 5);
            is("40 check: the first of several", x.check(3), 1 + other);
        }
    }

    private static void count() {
        edge("41 count BEYOND: what", 0, 10, 7, 77, (x, v) -> x.count(v));
        int[] all = {10, 3, 2, 903, 2, 2, 3, 77};
        for (int k = 0; k < 8; k++) {
            int what = k;
            taken("41 count: what " + k, all[k], x -> x.count(what));
        }
    }

    private static void told() {
        edge("42 told BEYOND: another k", 1, 0, 6, 0, (x, v) -> x.told(v));
        SmokyHeap x = new SmokyHeap();
        is("42 told BEYOND: 0", x.told(0), BEYOND);
        is("42 told BEYOND: 7", x.told(7), BEYOND);
        is("42 told: these are counted, too", x.told(1), 2);
        x.lay(0, 0, 5, 0);
        for (int k = 0; k < 3; k++) x.take(29);
        for (int k = 0; k < 4; k++) x.sheet(0, 8, -1);
        for (int k = 0; k < 29; k++) x.tell(0);
        for (int k = 0; k < 6; k++) x.as(0, 1);
        x.lay(0, 1, 1, 0);
        for (int k = 0; k < 7; k++) x.voice(1, 3, 0);
        int[] due = {2, 3, 4, 5, 6, 7};
        for (int k = 1; k < 7; k++) is("42 told: how many of each", x.told(k), due[k - 1]);
        SmokyHeap y = new SmokyHeap();
        for (int k = 0; k < 511; k++) y.take(30);
        is("42 told: of the 511 calls ahead of the last one", y.told(1), 511);
    }

    public static void main(String[] args) {
        lay();
        take();
        armful();
        as();
        become();
        light();
        fork();
        pour();
        set();
        feeding();
        text();
        untell();
        minutes();
        seed();
        washing();
        garden();
        heap();
        may();
        then();
        hour();
        spot();
        out();
        catches();
        reach();
        reports();
        voice();
        body();
        sheets();
        put();
        move();
        armfuls();
        image();
        tell();
        check();
        count();
        told();
        telling();
        end();
    }
}
