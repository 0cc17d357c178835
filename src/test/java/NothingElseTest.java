import java.util.ArrayList;
import java.util.List;
import java.util.function.Consumer;
import java.util.function.ToIntFunction;

/**
 * That a call changes nothing but what the document says: two acts that have nothing to do with one another in either
 * order, what an act changes and another one puts back, and after each call all that is there by numbers worked out by
 * hand, so that a call that only tells can't change anything unseen.
 */
public final class NothingElseTest extends Begun {
    /** Acts each of which changes what none of the others does. */
    private static List<Consumer<SmokyHeap>> actsApart() {
        List<Consumer<SmokyHeap>> acts = new ArrayList<>(List.of(
                x -> x.lay(0, 3, 9, 9), x -> x.take(17), x -> x.become(6, 2), x -> x.fork(0, 9), x -> x.pour(1, 33),
                x -> x.light(4), x -> x.feed('9', 1), x -> x.untell(0), x -> x.untell(2), x -> x.seed(5),
                x -> x.washing(4, 3, 5), x -> x.report(7, 2), x -> x.tell(9), x -> x.sheet(3, 8, 4),
                x -> x.put(1, 0, 2), x -> x.move(0, 4, 0, 0, 4), x -> x.voice(4, 1, 3), x -> x.take(30)));
        int[] becomes = {2, 2, 2, 70, 2};
        for (int k = 0; k < 5; k++) {
            int what = k;
            acts.add(x -> x.set(what, becomes[what]));
        }
        return acts;
    }

    private static void same(String sentence, Consumer<SmokyHeap> begin, Consumer<SmokyHeap> beginOther) {
        refused(sentence, begin, beginOther, 0, x -> 0);
    }

    private static void apart() {
        List<Consumer<SmokyHeap>> acts = actsApart();
        for (int i = 0; i < acts.size(); i++) {
            for (int j = 0; j < i; j++) {
                Consumer<SmokyHeap> one = acts.get(i);
                Consumer<SmokyHeap> other = acts.get(j);
                Consumer<SmokyHeap> begun = Begun::begun;
                same("an act changes what it tells alone: " + j + " and " + i, begun.andThen(one).andThen(other),
                        begun.andThen(other).andThen(one));
            }
        }
    }

    /** What an act changes is put back by another one: then all is as it was. */
    private static void putBack() {
        refused("2, 3 lay, take", 5, x -> x.take(x.lay(4, 1, 5, 6)));
        refused("6 become (all else stays)", 6, x -> x.become(0, 6) + x.become(0, 0));
        refused("8 fork", 7 + 1, x -> x.fork(6, 1) + x.fork(6, 7));
        int[] was = {903, 12, 0, 80, 3};
        for (int k = 0; k < 5; k++) {
            int what = k;
            refused("10 set " + k, was[k] + 2, x -> x.set(what, 2) + x.set(what, was[what]));
        }
        refused("16 seed", 77 + 5, x -> x.seed(5) + x.seed(77));
        refused("17 washing", 2 + 1, x -> x.washing(5, 3, 4) + x.washing(5, 15, 15));
        refused("33 sheet", 2, x -> x.sheet(3, 32, 9) + x.sheet(3, 0, 9));
        refused("34 put", 2, x -> x.put(0, 2, 9) + x.put(0, 2, 500));
        refused("35 move", 8, x -> x.move(0, 0, 0, 0, 8));
        refused("31 voice", 52 + 93, x -> x.voice(0, 0, 2) + x.voice(0, 2, 7) - 21);
        refused("12, 13 text, untell", x -> {
            begun(x);
            x.text(0);
        }, 2, x -> x.untell(2) + law(x, 2, "s*3"));
    }

    // ---- all that is there, by hand

    // PLACE, KIND, STUFF, WET, LOOSE, WARM, LIT.
    private static final int[][] THERE = {{0, 0, 50, 40, 3, 100, 1}, {6, 1, 40, 10, 7, 0, 0}, {1, 2, 90, 209, 3, 0, 0},
        {2, 6, 30, 20, 3, 0, 0}, {4, 4, 4, 5, 3, 0, 0}, {5, 5, 20, 3, 3, 0, 0}, {11, 5, 21, 3, 3, 0, 0},
        {17, 5, 22, 3, 3, 0, 0}, {23, 5, 23, 3, 3, 0, 0}, {29, 5, 24, 3, 3, 0, 0}};
    private static final int[] OF_HEAP = {324, 1, 100, 1, 20, 70, 5, 299};

    /** As begun(), of an object that has had an IMAGE ahead and told a BEYOND. */
    private static SmokyHeap begunLater() {
        SmokyHeap x = new SmokyHeap();
        x.image();
        x.told(0);
        begun(x);
        return x;
    }

    private static void factsOfHeap(String s, SmokyHeap x) {
        for (int k = 0; k < 8; k++) is(s + ": heap " + k, x.heap(k), OF_HEAP[k]);
        for (int[] t : THERE) for (int k = 0; k < 6; k++) is(s + ": PLACE " + t[0] + ", " + k, x.armful(t[0], k), t[1 + k]);
        int[] smelt = {0, 0, 0, 0, 14, 7, 0, 0, 0};
        for (int g = 0; g < 9; g++) {
            is(s + ": SMELT of " + g, x.garden(g, 0), smelt[g]);
            is(s + ": BOTHERED of " + g, x.garden(g, 1), g == 5 ? 7 : 0);
            is(s + ": WASHING of " + g, x.garden(g, 2), g == 5 ? 1 << 15 : 0);
        }
        is(s + ": SUSPECTS", x.suspects(), 1 << 4);
        is(s + ": the liar", x.liar(), 1);
        is(s + ": AHEAD", x.then(1, 4), 28);
        is(s + ": smoke AHEAD", x.gardenThen(1, 4, 0), 17);
        is(s + ": the BYLAW", x.may(), 1);
    }

    private static void factsOfSheets(String s, SmokyHeap x) {
        is(s + ": SHEET 0", x.armfuls(0), 2);
        is(s + ": SHEET 0 has 8", x.put(0, 7, 0) + x.armful(7, 1) + x.armful(13, 2), 1 + 500 + 8);
        is(s + ": SHEET 1", x.armfuls(1), 1);
        is(s + ": SHEET 1 has 4", x.put(1, 3, 0) + x.armful(8, 1), 1 + 5);
        is(s + ": SHEET 2", x.put(2, 1, 0), 1);
        is(s + ": SHEET 2 has 2", x.put(2, 2, 0), BEYOND);
        is(s + ": SHEET 3", x.put(3, 0, 0), NONE);
    }

    private static void factsOfSettings(String s, SmokyHeap x, int dryness) {
        int[] settings = {903, 12, 0, dryness, 3};
        for (int k = 0; k < 5; k++) is(s + ": SETTING " + k, x.set(k, settings[k]), settings[k]);
    }

    /** All of begunLater(), what told() tells first. */
    private static void facts(String s, SmokyHeap x, int beyond) {
        for (int k = 1; k < 7; k++) is(s + ": told(" + k + ")", x.told(k), k == 1 ? 1 + beyond : k == 2 ? 1 : 0);
        for (int i = 0; i < 3; i++) is(s + ": body " + i, x.body(i), 12 - i);
        int[] counts = {10, 3, 2, 903, 2, 2, 3, 77};
        for (int k = 0; k < 8; k++) is(s + ": count " + k, x.count(k), counts[k]);
        factsOfHeap(s, x);
        factsOfSettings(s, x, 80);
        factsOfSheets(s, x);
        is(s + ": THE TAPE", x.text(0), -12);
        is(s + ": what waits", x.check(0), 0);
        for (int use = 0; use < 3; use++) is(s + ": TEXT " + use, x.untell(use), 1);
        is(s + ": restore", x.restore(), 3);
        factsOfHeap(s + ", IMAGE", x);
        factsOfSettings(s + ", IMAGE", x, 60);
        int[] kept = {10, 3, 2, 903, 0, 0, 3, 77};
        for (int k = 0; k < 8; k++) is(s + ", IMAGE: count " + k, x.count(k), kept[k]);
        for (int use = 0; use < 3; use++) is(s + ", IMAGE: TEXT " + use, x.untell(use), 1);
        is(s + ": image", x.image(), 3);
    }

    private static void leaves(String call, int want, ToIntFunction<SmokyHeap> act) {
        SmokyHeap x = begunLater();
        is(call, act.applyAsInt(x), want);
        facts("after " + call, x, want == BEYOND ? 1 : 0);
    }

    private static void tellingLeaves() {
        facts("at first", begunLater(), 0);
        leaves("4 armful", 50, x -> x.armful(0, 1));
        leaves("5 as", 50, x -> x.as(0, 0));
        leaves("18 garden", 14, x -> x.garden(4, 0));
        leaves("19 heap", 20, x -> x.heap(4));
        leaves("20 may", 1, x -> x.may());
        leaves("21 then", 28, x -> x.then(1, 4));
        leaves("22 gardenThen", 17, x -> x.gardenThen(1, 4, 0));
        leaves("23 hour", 0, x -> x.hour(29, 60));
        leaves("24 spot", 0, x -> x.spot(0));
        leaves("25 out", 700, x -> x.out(1));
        leaves("26 catches", 0, x -> x.catches(0, 60));
        leaves("27 reach", 4, x -> x.reach(0));
        leaves("29 suspects", 1 << 4, x -> x.suspects());
        leaves("30 liar", 1, x -> x.liar());
        leaves("32 body", 12, x -> x.body(0));
        leaves("41 count", 77, x -> x.count(7));
        leaves("42 told", 1, x -> x.told(1));
    }

    private static void actsLeave() {
        leaves("2, 3 lay, take", 5, x -> x.take(x.lay(4, 1, 5, 6)));
        leaves("6 become", 6, x -> x.become(0, 6) + x.become(0, 0));
        leaves("8 fork", 8, x -> x.fork(6, 1) + x.fork(6, 7));
        leaves("9 pour", 40, x -> x.pour(0, 0));
        leaves("10 set", 12 + 7, x -> x.set(1, 7) + x.set(1, 12));
        leaves("16 seed", 77 + 5, x -> x.seed(5) + x.seed(77));
        leaves("17 washing", 2 + 1, x -> x.washing(5, 3, 4) + x.washing(5, 15, 15));
        leaves("31 voice", 52 + 114, x -> x.voice(0, 0, 2) + x.voice(0, 2, 7));
        leaves("33 sheet", 2, x -> x.sheet(3, 32, 9) + x.sheet(3, 0, 9));
        leaves("34 put", 2, x -> x.put(0, 2, 9) + x.put(0, 2, 500));
        leaves("35 move", 8, x -> x.move(0, 0, 0, 0, 8));
        leaves("36, 3 armfuls, take", 1 + 5, x -> x.armfuls(1) + x.take(8));
        leaves("40, 39 check, tell", 0 + 1 + 2, x -> x.check(0) + x.tell(0) + x.tell(1));
        leaves("12, 11 text, feed", -12 + 2, x -> x.text(1) + x.feed('7' + ('+' << 8), 2));
        leaves("13 untell BEYOND", BEYOND, x -> x.untell(3));
        leaves("7 light BEYOND", BEYOND, x -> x.light(30));
        leaves("14 minutes BEYOND", BEYOND, x -> x.minutes(0));
        leaves("15 gusts BEYOND", BEYOND, x -> x.gusts(201));
        leaves("28 report BEYOND", BEYOND, x -> x.report(9, 0));
    }

    // With an IMAGE of all this there is nothing else to put back.
    private static void imageLeaves() {
        SmokyHeap x = begunLater();
        is("37 image", x.image(), 3);
        x.minutes(9);
        x.report(7, 2);
        is("38 restore", x.restore(), 3);
        int[] counts = {10, 3, 2, 903, 2, 2, 3, 77};
        for (int k = 0; k < 8; k++) is("37 image: count " + k, x.count(k), counts[k]);
        factsOfHeap("37 image", x);
        factsOfSettings("37 image", x, 80);
        factsOfSheets("37 image", x);
    }

    public static void main(String[] args) {
        apart();
        putBack();
        tellingLeaves();
        actsLeave();
        imageLeaves();
        end();
    }
}
