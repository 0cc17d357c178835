import java.util.ArrayList;
import java.util.List;
import java.util.function.Consumer;
import java.util.function.ToIntFunction;

/** A HEAP in which something is of everything, all that can be looked at, and that a call changes nothing of it. */
abstract class Begun extends Ask {
    /** Something of everything; of these acts the last one answers NONE, no other one an ERROR. */
    static void begun(SmokyHeap x) {
        // A paper of which 70 of smoke comes, 28 of it lies: 14 in GARDEN 4, 7 in GARDEN 5.
        x.washing(5, 15, 15);
        x.lay(3, 3, 20, 60);
        x.light(3);
        x.minutes(3);
        x.lay(0, 0, 50, 40);
        x.lay(1, 0, 40, 10);
        x.lay(2, 1, 90, 200);
        x.lay(6, 2, 30, 20);
        x.lay(4, 4, 4, 5);
        for (int k = 0; k < 5; k++) x.lay(5, 5, 20 + k, 3);
        x.fork(6, 7);
        x.light(0);
        x.pour(1, 9);
        law(x, 0, "d/2+1");
        law(x, 1, "l<9");
        law(x, 2, "s*3");
        x.report(5, 0);
        x.report(4, 1);
        x.seed(77);
        x.set(1, 12);
        x.set(4, 3);
        x.image();
        x.set(3, 80);
        sheet(x, 0, 16, 3, 1, 500, 30, 0, 1, 7, 8);
        sheet(x, 1, 8, 1, 2, 5, 6);
        sheet(x, 2, 32, 65536, 2);
        x.voice(0, 2, 7);
        x.tell(0);
        x.tell(1);
        feed(x, "7+");
        x.take(28);
    }

    static void sheet(SmokyHeap x, int sheet, int bits, int... numbers) {
        x.sheet(sheet, bits, numbers.length);
        for (int i = 0; i < numbers.length; i++) x.put(sheet, i, numbers[i]);
    }

    // ---- what can be looked at

    private static List<Integer> looks(SmokyHeap x) {
        List<Integer> seen = new ArrayList<>();
        for (int k = 0; k < 4; k++) seen.add(x.body(k));
        lookAtHeap(x, seen);
        for (int g = 0; g < 9; g++) for (int k = 0; k < 3; k++) seen.add(x.garden(g, k));
        seen.add(x.then(3, 4));
        seen.add(x.gardenThen(3, 4, 0));
        lookAtTexts(x, seen);
        lookAtSheets(x, seen);
        lookAtHeap(x, seen);
        seen.add(x.restore());
        lookAtHeap(x, seen);
        lookAtTexts(x, seen);
        seen.add(x.image());
        return seen;
    }

    private static void lookAtHeap(SmokyHeap x, List<Integer> seen) {
        for (int k = 0; k < 8; k++) {
            seen.add(x.heap(k));
            seen.add(x.count(k));
        }
        for (int p = 0; p < 30; p++) {
            int kind = x.armful(p, 0);
            seen.add(kind);
            for (int k = 1; k < 6 && kind >= 0; k++) seen.add(x.armful(p, k));
        }
    }

    private static void lookAtTexts(SmokyHeap x, List<Integer> seen) {
        seen.add(x.may());
        seen.add(x.suspects());
        seen.add(x.liar());
        for (int k = 0; k < 5; k++) seen.add(x.set(k, 0));
        seen.add(x.check(0));
        seen.add(x.text(2));
        for (int use = 0; use < 3; use++) seen.add(x.untell(use));
        seen.add(x.report(4, 0));
        seen.add(x.suspects());
    }

    private static void lookAtSheets(SmokyHeap x, List<Integer> seen) {
        for (int s = 0; s < 4; s++) {
            seen.add(x.armfuls(s));
            for (int i = 1; i < 9; i *= 2) {
                seen.add(x.put(s, i, 1));
                seen.add(x.put(s, i - 1, 1));
            }
            seen.add(x.move(s, 0, 0, 0, 0));
            seen.add(x.move(s, 0, 1, 0, 0));
        }
    }

    // ---- what stays

    /** Answers an ERROR, or what only tells or is put back: but told() all is as on an object without the call. */
    static void refused(String sentence, int error, ToIntFunction<SmokyHeap> call) {
        refused(sentence, Begun::begun, error, call);
    }

    static void refused(String sentence, Consumer<SmokyHeap> begin, int error, ToIntFunction<SmokyHeap> call) {
        refused(sentence, begin, begin, error, call);
    }

    static void refused(String sentence, Consumer<SmokyHeap> begin, Consumer<SmokyHeap> beginOther, int error,
            ToIntFunction<SmokyHeap> call) {
        SmokyHeap x = new SmokyHeap();
        SmokyHeap other = new SmokyHeap();
        begin.accept(x);
        beginOther.accept(other);
        is(sentence, call.applyAsInt(x), error);
        for (int k = 1; k < 7; k++) {
            is(sentence + ", told(" + k + ")", x.told(k), other.told(k) + (error == LOW - k ? 1 : 0));
        }
        List<Integer> got = looks(x);
        List<Integer> want = looks(other);
        int same = 0;
        while (same < want.size() && got.size() == want.size() && got.get(same).equals(want.get(same))) same++;
        is(sentence + ", looks that are as without the call", same, want.size());
    }
}
