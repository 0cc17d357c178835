/**
 * The edges in the document's terms: what is held, cut, wraps around or is at most so much, where a row, a column or
 * the GARDENS end, and the number that just does beside the one that just doesn't; worked out by hand.
 */
public final class EdgesOfTermsTest extends Ask {
    /** One ARMFUL in PLACE 0, LIT by hand, of WARM 100; DRYNESS is 60. */
    private static SmokyHeap lit(int kind, int stuff, int wet) {
        SmokyHeap x = new SmokyHeap();
        x.lay(0, 0, stuff, wet);
        x.set(3, 999);
        x.light(0);
        x.set(3, 60);
        x.become(0, kind);
        return x;
    }

    /** A LIVED one in PLACE 0, LIT, of which nothing burns: WARM as told, WET 100 less that. */
    private static SmokyHeap glowing(int warm) {
        SmokyHeap x = lit(6, 9, 0);
        x.pour(0, 100 - warm);
        return x;
    }

    private static SmokyHeap afterMinute(SmokyHeap x) {
        x.minutes(1);
        return x;
    }

    // ---- 1: PLACES, SETTINGS, GARDENS

    private static void comingDown() {
        for (int gone = 0; gone < 5; gone++) {
            SmokyHeap x = new SmokyHeap();
            for (int k = 0; k < 5; k++) {
                x.lay(k, 2, 10 + k, 20 + k);
                x.fork(2 + 6 * k, 9 - k);
                if (k % 2 == 0) x.light(2 + 6 * k);
            }
            is("1 it is taken", x.take(2 + 6 * gone), 10 + gone);
            for (int row = 0; row < 4; row++) {
                int k = row < gone ? row : row + 1;
                int[] as = {k, 10 + k, 20 + k, 9 - k, k % 2 == 0 ? 100 : 0, k % 2 == 0 ? 1 : 0};
                for (int what = 0; what < 6; what++) is("1 one down each, as they are", x.armful(2 + 6 * row, what), as[what]);
            }
            is("1 above AIR there is AIR", x.armful(26, 0), NONE);
            is("1 the column takes one again", x.lay(5, 2, 1, 0), 26);
            is("1 of it LOOSE is 3 at first", x.armful(26, 3), 3);
            is("1 of it WARM is 0 at first", x.armful(26, 4), 0);
            is("1 it is not LIT at first", x.armful(26, 5), 0);
        }
    }

    private static void leastStuff() {
        SmokyHeap x = new SmokyHeap();
        for (int k = 0; k < 5; k++) x.lay(k, 1, 1, 50 - k);
        is("1 STUFF of 1: it is there", x.count(0) + x.heap(0), 10);
        is("1 STUFF of 1: it comes down", x.take(1) + x.armful(1, 0), 2);
        is("1 STUFF of 1: all above do", x.armful(19, 0), 4);
        is("1 STUFF of 1: it is LIT", x.light(19), 1);
        is("1 STUFF of 1: it counts among the LIT", x.heap(1), 1);
        is("1 STUFF of 1: it hangs together with others", x.reach(1), 4);
        is("1 STUFF of 1: it has DRAUGHT", x.armful(19, 6), 3 * 3 + 5);
        is("1 STUFF of 1: those below have less", x.armful(13, 6), 2 * 3 + 5);
        is("1 STUFF of 1: WARM and WET count", x.heap(2) * 1000 + x.heap(7), 100000 + 49 + 48 + 47 + 46);
        SmokyHeap y = lit(6, 1, 0);
        is("4 OUT: of STUFF 1, too", y.out(1), 100);
        is("1 STUFF of 1: is taken", y.take(0), 1);
    }

    private static void draughts() {
        for (int column = 0; column < 6; column++) {
            for (int way = 0; way < 4; way++) {
                SmokyHeap x = new SmokyHeap();
                x.lay(0, column, 9, 0);
                x.set(2, way);
                is("1 DRAUGHT: AIR or beside the HEAP, not below the ground", x.armful(column, 6), 3 * 3 + 5);
            }
        }
        SmokyHeap x = new SmokyHeap();
        for (int column = 0; column < 6; column++) pile(x, 0, column, 5);
        // Of the fullest HEAP each WAY in turn: WIND is 5, LOOSE 3.
        int[][] due = {{0, 8, 3, 3, 3}, {5, 3, 3, 8, 3}, {24, 11, 11, 6, 11}, {29, 6, 11, 11, 11}, {26, 3, 8, 3, 8},
            {6, 8, 3, 3, 3}, {11, 3, 3, 8, 3}, {7, 0, 0, 0, 0}, {2, 0, 0, 0, 0}, {19, 0, 0, 0, 0}};
        for (int[] d : due) {
            for (int way = 0; way < 4; way++) {
                x.set(2, way);
                is("1 DRAUGHT of the fullest HEAP, WAY " + way, x.armful(d[0], 6), d[1 + way]);
            }
        }
        x.set(2, 0);
        int[][] most = {{9, 99, 18 + 99}, {0, 99, 99}, {9, 0, 18}, {0, 0, 0}};
        for (int[] m : most) {
            x.fork(24, m[0]);
            x.set(1, m[1]);
            is("1 DRAUGHT: LOOSE and WIND at their ends", x.armful(24, 6), m[2]);
        }
    }

    private static void hoursOfClock() {
        int[][] due = {{0, 0}, {59, 0}, {60, 1}, {119, 1}, {1379, 22}, {1380, 23}, {1439, 23}};
        for (int[] d : due) {
            SmokyHeap x = new SmokyHeap();
            x.set(0, d[0]);
            law(x, 1, "h=" + d[1]);
            is("1 HOUR: CLOCK by 60, at " + d[0], x.may(), 1);
        }
        int[] clocks = {0, 1438, 1439};
        for (int clock : clocks) {
            SmokyHeap x = new SmokyHeap();
            x.set(0, clock);
            x.minutes(1);
            is("3 CLOCK is 1 more (1439: 0)", x.count(3), clock == 1439 ? 0 : clock + 1);
        }
    }

    // ---- 2: TEXTS

    private static void good(String... texts) {
        for (String t : texts) is("2 a TEXT: " + t, law(new SmokyHeap(), 0, t), 1);
    }

    private static void fault(String text, int place) {
        is("2 FAULT of " + text, -10 - law(new SmokyHeap(), 0, text), place);
    }

    private static void digits() {
        good("1", "12", "123", "1234", "0000", "9999", "1234+5678", "(1234)");
        fault("12345", 4);
        fault("00000", 4);
        fault("1+12345", 6);
        fault("(12345)", 5);
        fault("123456789", 4);
        worth("9999", "9998+1");
        worth("0009", "9");
        worth("0000", "0");
    }

    private static void openOnes() {
        good("!!!!!1", "(((((1)))))", "!(!(!1))", "(!(!(1)))", "!!!((1))");
        // The sixth that is open at once, whichever of the two.
        fault("!!!!!!1", 5);
        fault("!!!!!(1)", 5);
        fault("((((((1))))))", 5);
        fault("(((((!1)))))", 5);
        fault("!(!(!(1)))", 5);
        fault("(1+(1+(1+(1+(1+(1))))))", 15);
        // Those that are closed again are open no more.
        good("!!!!!1+!!!!!1", "(((((1)))))+(((((1)))))", "!(1)+(((((1)))))", "(((((1+1)))))", "(1)*!!!!!1",
            "!1+!1+!1+!1+!1+!1", "(1)+(1)+(1)+(1)+(1)+(1)", "((((!1+!1))))");
        fault("((((!1+!(1)))))", 8);
        fault("!!!!(1)+(((((!1", 13);
    }

    private static void comparisons() {
        good("1<2", "1=2", "1>2", "1<2&2<3", "1<2|2<3", "(1<2)<3", "1<(2<3)", "!1<!2");
        fault("1<2<3", 3);
        fault("1=2=3", 3);
        fault("1>2<3", 3);
        fault("1<2&3<4<5", 7);
        fault("(1<2<3)", 4);
        fault("1|1<2=3", 5);
    }

    private static void ends() {
        fault("", 0);
        fault("1+", 2);
        fault("(", 1);
        fault("!", 1);
        fault("(1", 2);
        fault("((1)", 4);
        fault("1<", 2);
        fault("1&", 2);
        fault("1|", 2);
        fault("1*", 2);
        fault("1%", 2);
        String long58 = "1+".repeat(29);
        good(long58 + "1", long58 + "12");
        fault(long58 + "1+", 60);
        fault(long58 + "(1", 60);
        fault(long58 + "1x", 59);
        fault(long58 + "x1", 58);
        fault("x" + long58 + "1", 0);
        // 60 bytes, each of which is a number or a sign by itself, are all worked out: 1 and 29 times 1.
        SmokyHeap x = lit(0, 40, 0);
        is("2 a TEXT of 60 parts", law(x, 0, "!0" + "+1".repeat(29)), 1);
        is("2 all is worked out", x.then(1, 4), 30);
        is("2 another in its place", law(x, 0, "!0*7" + "*1".repeat(28)), 1);
        is("2 nothing of the one ahead", x.then(1, 4), 7);
    }

    private static void noBlanks() {
        fault(" 1", 0);
        fault("1 ", 1);
        fault("1+ 1", 2);
        fault("1 +1", 1);
        fault("( 1)", 1);
        fault("1\n", 1);
        fault("1\t", 1);
        fault("\0", 0);
        fault("1\0", 1);
        fault("1+\0", 2);
        fault("\u00ff", 0);
        fault("1\u00ab", 1);
        fault("\u00b1", 0);
    }

    private static void firstBytes() {
        fault(")", 0);
        fault("+1", 0);
        fault("-1", 0);
        fault("1++1", 2);
        fault("1+-1", 2);
        fault("1!", 1);
        fault("1(", 1);
        fault("(1)(1)", 3);
        fault("(1)1", 3);
        fault("1)", 1);
        fault("()", 1);
        fault("(1+)", 3);
        fault("!)", 1);
        fault("ds", 1);
        fault("d1", 1);
        fault("1d", 1);
        fault("D", 0);
        // The bytes beside those of the digits.
        fault("/", 0);
        fault(":", 0);
        fault("1:", 1);
        fault("1/:", 2);
    }

    /** A value, by a BYLAW that compares it with that of another text. */
    private static void worth(String text, String same) {
        SmokyHeap x = new SmokyHeap();
        is("2 a TEXT: " + text, law(x, 1, "(" + text + ")=(" + same + ")"), 1);
        is("2 " + text + " is " + same, x.may(), 1);
        law(x, 1, "(" + text + ")=(" + same + ")+1");
        is("2 " + text + " is no other", x.may(), 0);
    }

    private static void wraps() {
        // 8192 * 8192 * 32 is the least int; one less is the greatest.
        worth("8192*8192*32-1+1", "8192*8192*32");
        worth("8192*8192*32<0", "1");
        worth("8192*8192*32-1>0", "1");
        worth("0-8192*8192*32", "8192*8192*32");
        worth("8192*8192*32*(0-1)", "8192*8192*32");
        worth("8192*8192*64", "0");
        worth("9999*9999*9999<0", "1");
        worth("8192*8192*32<8192*8192*32-1", "1");
        worth("8192*8192*32>8192*8192*32-1", "0");
        worth("8192*8192*32/(0-1)", "8192*8192*32");
        worth("8192*8192*32%(0-1)", "0");
    }

    private static void cutsAndZeros() {
        worth("(0-7)/2", "0-3");
        worth("7/(0-2)", "0-3");
        worth("(0-7)/(0-2)", "3");
        worth("(0-1)/2", "0");
        worth("(0-7)%3", "0-1");
        worth("7%(0-3)", "1");
        worth("(0-7)%(0-3)", "0-1");
        worth("6%3", "0");
        worth("5/0", "0");
        worth("5%0", "0");
        worth("0/0", "0");
        worth("0%0", "0");
        worth("(0-5)/0", "0");
        worth("8192*8192*32/0", "0");
        worth("8192*8192*32%0", "0");
        worth("5/0+7", "7");
        worth("5/0*7", "0");
    }

    private static void truths() {
        worth("1|0/0", "1");
        worth("0/0|1", "1");
        worth("0&1%0", "0");
        worth("0|0", "0");
        worth("(0-1)|0", "1");
        worth("0|(0-1)", "1");
        worth("(0-1)&(0-2)", "1");
        worth("2&4", "1");
        worth("2&0", "0");
        worth("0&2", "0");
        worth("2|4", "1");
        worth("!0", "1");
        worth("!(0-1)", "0");
        worth("!2", "0");
        worth("!!2", "1");
        worth("2<1", "0");
        worth("1>2", "0");
        worth("1=2", "0");
        worth("2=1", "0");
        worth("1<1", "0");
        worth("1>1", "0");
        worth("1=1", "1");
        worth("0-1<0", "1");
        worth("0-1>0", "0");
        worth("0-1=0-1", "1");
    }

    // ---- 2, 3: what a TEXT tells is held

    private static void burningHeld() {
        String[] texts = {"0-9999*9999", "0-1", "0", "1", "2", "s-1", "s", "s+1", "9999", "8192*8192*32",
            "8192*8192*32-1", "9999*9999*9999"};
        int[] burnt = {1, 1, 1, 1, 2, 39, 40, 40, 40, 1, 40, 1};
        for (int k = 0; k < texts.length; k++) {
            SmokyHeap x = lit(0, 40, 0);
            law(x, 0, texts[k]);
            x.minutes(1);
            is("3 BURNING, held within 1 .. STUFF: " + texts[k], x.heap(4), burnt[k]);
            is("3 with STUFF 0 it is ASH: " + texts[k], x.heap(3), burnt[k] == 40 ? 1 : 0);
            is("3 STUFF is that less: " + texts[k], x.heap(0), 40 - burnt[k]);
        }
        // Without a TEXT: d / 4 + 1, d being WIND if LOOSE is 0.
        int[][] due = {{0, 1}, {3, 1}, {4, 2}, {7, 2}, {8, 3}, {99, 25}};
        for (int[] d : due) {
            SmokyHeap x = lit(0, 40, 0);
            x.fork(0, 0);
            x.set(1, d[0]);
            is("2 without a TEXT d / 4 + 1", x.then(1, 4), d[1]);
            SmokyHeap one = lit(0, 1, 0);
            one.fork(0, 0);
            one.set(1, d[0]);
            is("3 of STUFF 1 burns 1", one.then(1, 4), 1);
            is("3 and it is ASH", one.then(1, 3), 1);
        }
    }

    private static void burnsHeld() {
        // KIND, STUFF, BURNING, and what burns.
        int[][] due = {{0, 3, 2, 2}, {0, 3, 3, 3}, {1, 3, 1, 2}, {1, 3, 2, 3}, {1, 4, 2, 4}, {1, 5, 2, 4}, {1, 999, 999, 999},
            {2, 3, 2, 2}, {3, 5, 1, 5}, {3, 6, 1, 6}, {3, 7, 1, 6}, {3, 7, 2, 7}, {3, 13, 2, 12}, {3, 999, 999, 999},
            {4, 5, 1, 0}, {4, 5, 2, 1}, {4, 5, 3, 1}, {4, 5, 9999, 2}, {4, 1, 1, 0}, {5, 5, 1, 0}, {5, 5, 2, 1}, {5, 5, 3, 1},
            {5, 5, 9999, 2}, {5, 1, 9, 0}, {6, 5, 9999, 0}, {6, 1, 1, 0}};
        for (int[] d : due) {
            SmokyHeap x = lit(d[0], d[1], 0);
            law(x, 0, "" + d[2]);
            x.minutes(1);
            is("3 BURNS, held within 0 .. STUFF: KIND " + d[0] + ", STUFF " + d[1] + ", BURNING " + d[2], x.heap(4), d[3]);
            is("3 STUFF is that less", x.heap(0), d[1] - d[3]);
        }
        for (int kind = 0; kind < 7; kind++) {
            SmokyHeap x = lit(kind, 5, 0);
            law(x, 0, "0-5");
            int[] burns = {1, 2, 1, 5, 0, 0, 0};
            is("3 BURNING is held ahead of what its KIND has", x.then(1, 4), burns[kind]);
        }
    }

    private static void lyingHeld() {
        String[] texts = {"8192*8192*32", "0-1", "0", "1", "99", "100", "101", "8192*8192*32-1"};
        int[] half = {0, 0, 0, 5, 495, 500, 500, 500};
        for (int k = 0; k < texts.length; k++) {
            SmokyHeap x = smoky();
            law(x, 2, texts[k]);
            x.minutes(1);
            is("2 LYING, held within 0 .. 100: " + texts[k], x.garden(4, 0), half[k]);
            is("3 SMOKE is all that there was", x.heap(5), 1000);
        }
        int[][] due = {{0, 450}, {359, 450}, {360, 200}, {1079, 200}, {1080, 450}, {1439, 450}};
        for (int[] d : due) {
            SmokyHeap x = smoky();
            x.set(0, d[0]);
            is("2 without: 90, if HOUR is 18 or more, or below 6, else 40", x.gardenThen(1, 4, 0), d[1]);
        }
    }

    // ---- 3: a MINUTE

    /** 100 of WET 190 burn: 1000 of smoke. */
    private static SmokyHeap smoky() {
        SmokyHeap x = lit(0, 999, 190);
        law(x, 0, "100");
        return x;
    }

    private static void giving() {
        // WARM of it, what it has then, and what the LIVED one beside it has then.
        int[][] due = {{7, 6, 0}, {8, 6, 0}, {15, 12, 0}, {16, 12, 1}, {100, 80, 9}};
        for (int[] d : due) {
            SmokyHeap x = glowing(d[0]);
            x.lay(6, 1, 9, 0);
            x.minutes(1);
            is("3 it gives WARM by 8, its own is that less: " + d[0], x.armful(0, 4), d[1]);
            is("3 the one beside it has it: " + d[0], x.armful(1, 4), d[2]);
        }
        is("3 to AIR none is given", afterMinute(glowing(100)).armful(0, 4), 89);
        crossOfWarmth();
        ringOfWarmth();
    }

    // 240 burn of the ROSE in the middle: 2020. 252 go left, 221 right, 193 above, 169 below.
    private static void crossOfWarmth() {
        SmokyHeap x = new SmokyHeap();
        pile(x, 6, 0, 2);
        pile(x, 6, 1, 3);
        pile(x, 6, 2, 2);
        x.take(7);
        x.take(7);
        x.lay(2, 1, 999, 0);
        x.lay(6, 1, 9, 0);
        x.light(7);
        law(x, 0, "240");
        x.minutes(1);
        is("3 left first", x.armful(6, 4), 252);
        is("3 below last", x.armful(1, 4), 169);
        // 27 of 221 go back, 24 below: 170, less 17 and 1.
        is("3 right second", x.armful(8, 4), 152);
        // 24 of 193 go back: 169, less 16 and 1.
        is("3 above third", x.armful(13, 4), 152);
        is("3 below the right one", x.armful(2, 4), 24);
        // 1185, less 118 and 1, and what came back.
        is("3 its own is that less", x.armful(7, 4), 1066 + 27 + 24);
        is("3 none to those that lie across", x.armful(0, 4), 0);
    }

    // LIVED ones in columns 0 and 5, so many each; one of them has WARM of 100: what it gives to those beside it alone
    // is less by no tenth. At the lower end 12 come back, in part: 79 and 1, and 8.
    private static void ringOfWarmth() {
        int[][] due = {{5, 5, 24, 91}, {5, 5, 29, 91}, {5, 5, 0, 88}, {5, 5, 5, 88}, {5, 1, 5, 89}, {1, 5, 0, 89},
            {2, 1, 6, 91}, {2, 1, 5, 89}};
        for (int[] d : due) {
            SmokyHeap x = new SmokyHeap();
            pile(x, 6, 0, d[0]);
            pile(x, 6, 5, d[1]);
            x.become(d[2], 0);
            x.light(d[2]);
            x.become(d[2], 6);
            x.minutes(1);
            is("3 the ends of rows and columns are not beside one another: " + d[2], x.heap(2), d[3]);
        }
        int[][] pairs = {{0, 1}, {1, 0}, {4, 5}, {5, 4}, {18, 24}, {24, 18}, {23, 29}, {29, 23}};
        for (int[] p : pairs) {
            SmokyHeap x = new SmokyHeap();
            pile(x, 6, p[0] % 6, 5);
            if (p[0] % 6 != p[1] % 6) pile(x, 6, p[1] % 6, 5);
            x.become(p[0], 0);
            x.light(p[0]);
            x.become(p[0], 6);
            x.minutes(1);
            is("3 but these are: " + p[0] + " and " + p[1], x.armful(p[1], 4) > 4 ? 1 : 0, 1);
        }
    }

    private static void dryingAndCooling() {
        // WARM, and WET less by it.
        int[][] dries = {{0, 0}, {19, 0}, {20, 1}, {39, 1}, {40, 2}, {99, 4}, {100, 5}};
        for (int[] d : dries) {
            SmokyHeap x = lit(6, 9, 20);
            x.pour(0, 100 - d[0]);
            is("3 WET is less by WARM by 20: " + d[0], afterMinute(x).armful(0, 2), 120 - d[0] - d[1]);
        }
        int[][] wets = {{0, 0}, {4, 0}, {5, 0}, {6, 1}};
        for (int[] w : wets) is("3 WET 0 at least: " + w[0], afterMinute(lit(6, 9, w[0])).armful(0, 2), w[1]);
        int[][] cools = {{0, 0}, {1, 0}, {2, 1}, {9, 8}, {10, 8}, {19, 17}, {20, 17}, {99, 89}, {100, 89}};
        for (int[] c : cools) {
            is("3 WARM is less by a tenth and 1, 0 at least: " + c[0], afterMinute(glowing(c[0])).armful(0, 4), c[1]);
        }
    }

    private static void goingOut() {
        // WARM is 1 less each time.
        for (int warm = 4; warm < 9; warm++) {
            is("3 LIT no more below 5: " + (warm - 1), afterMinute(glowing(warm)).armful(0, 5), warm - 1 < 5 ? 0 : 1);
        }
        // WET is 5 less each time.
        for (int wet = 704; wet < 708; wet++) {
            is("3 LIT no more above 700: " + (wet - 5), afterMinute(lit(6, 9, wet)).armful(0, 5), wet - 5 > 700 ? 0 : 1);
        }
        SmokyHeap x = glowing(5);
        is("3 what went out burns no more", x.then(2, 1) + x.then(2, 4), 0);
    }

    private static void catching() {
        // 12 and BURNING come from a ROSE; KIND, BURNING, and WARM that it has then, an eighth given back.
        int[][] due = {{0, 55, 59, 0}, {0, 56, 60, 1}, {1, 21, 29, 0}, {1, 22, 30, 1}, {2, 124, 119, 0}, {2, 125, 120, 1},
            {4, 124, 119, 0}, {4, 125, 120, 1}, {5, 89, 89, 0}, {5, 90, 90, 1}, {6, 998, 884, 0}};
        for (int[] d : due) {
            SmokyHeap x = new SmokyHeap();
            x.lay(2, 0, 999, 0);
            x.lay(d[0], 1, 9, 0);
            x.light(0);
            law(x, 0, "" + d[1]);
            x.minutes(1);
            is("3 WARM of KIND " + d[0] + ", less a tenth and 1", x.armful(1, 4), d[2] - d[2] / 10 - 1);
            is("3 WARM is CATCH or more: " + d[2] + " of KIND " + d[0], x.armful(1, 5), d[3]);
            is("3 what catches does not burn in that MINUTE", x.armful(1, 1), 9);
        }
        for (int warm = 47; warm < 49; warm++) {
            SmokyHeap x = glowing(warm);
            x.lay(3, 1, 9, 0);
            x.minutes(1);
            is("3 WARM is CATCH or more: " + warm / 8 + " of PAPER", x.armful(1, 5), warm / 8 - 5);
        }
        dryEnough();
    }

    // A DRY one of WARM 30, which dries by 1: WET, DRYNESS, and whether it is LIT then.
    private static void dryEnough() {
        int[][] due = {{61, 60, 1}, {62, 60, 0}, {1, 0, 1}, {2, 0, 0}, {0, 0, 1}, {701, 999, 1}, {701, 700, 1}, {701, 699, 0},
            {702, 999, 0}};
        for (int[] d : due) {
            SmokyHeap x = new SmokyHeap();
            x.lay(2, 0, 999, 0);
            x.lay(1, 1, 9, d[0]);
            x.light(0);
            law(x, 0, "22");
            x.set(3, d[1]);
            x.minutes(1);
            is("3 WET " + d[0] + " less 1, DRYNESS " + d[1] + ": LIT, and no more above 700", x.armful(1, 5), d[2]);
        }
    }

    private static void warmthHeld() {
        // 998 of each burn. In 7, with 994 and 1121 of the others, 10199 would be: 9999 are, of which 1249 go to the left
        // (1250 would of 10000), 1093 below; less 765 and 1.
        SmokyHeap x = new SmokyHeap();
        for (int k = 0; k < 4; k++) x.lay(2, k % 2, 999, 0);
        for (int k = 0; k < 4; k++) x.light(k < 2 ? k : k + 4);
        law(x, 0, "998");
        x.minutes(1);
        is("3 WARM is held at 9999: what it is then", x.armful(7, 4), 6891);
        is("3 WARM is held at 9999: an eighth of it", x.armful(6, 4), 6180 + 1249);
        // Six ROSES; the one in 0 is ASH in the second MINUTE, and what comes down to 0 in the third, too: what comes
        // there then was not done in either, and has had warmth of the others: 10703, were it not held.
        SmokyHeap y = new SmokyHeap();
        int[][] roses = {{0, 997}, {0, 996}, {0, 998}, {0, 999}, {1, 999}, {1, 999}};
        for (int[] r : roses) y.light(y.lay(2, r[0], r[1], 0));
        String[] laws = {"995", "1", "s-1"};
        for (String l : laws) {
            law(y, 0, l);
            y.minutes(1);
        }
        is("3 WARM is held at 9999, of what is given, too", y.armful(0, 4), 9999);
    }

    private static void ash() {
        for (int row = 0; row < 5; row++) {
            for (int stuff = 5; stuff < 7; stuff++) {
                SmokyHeap x = new SmokyHeap();
                for (int k = 0; k < 5; k++) x.lay(k == row ? 0 : 6, 3, k == row ? stuff : 50 + k, 0);
                x.light(3 + 6 * row);
                law(x, 0, "5");
                x.minutes(1);
                is("3 with STUFF 0 it is ASH, with 1 it isn't", x.heap(3), stuff == 5 ? 1 : 0);
                is("3 its PLACE is AIR", x.count(0), stuff == 5 ? 4 : 5);
                is("3 the rest is left out for it", x.heap(2) == 0 ? 1 : 0, stuff == 5 ? 1 : 0);
                int above = row == 4 ? NONE : 50 + row + 1;
                is("3 those above come down", x.armful(3 + 6 * row, 1), stuff == 5 ? above : 1);
            }
            notDone(row);
        }
        // Five PAPERS of which 6 burn each: what comes down to a PLACE is not done, what comes to the next one is.
        SmokyHeap x = new SmokyHeap();
        for (int k = 0; k < 5; k++) x.light(x.lay(3, 5, 6, 0));
        law(x, 0, "1");
        int[] ashes = {3, 4, 5, 5};
        for (int k = 0; k < 4; k++) {
            x.minutes(1);
            is("3 what came to this PLACE is not done in this MINUTE", x.heap(3), ashes[k]);
        }
        is("3 BURNT", x.heap(4), 30);
    }

    private static void notDone(int row) {
        SmokyHeap x = new SmokyHeap();
        for (int k = 0; k < 5; k++) x.light(x.lay(0, 0, k == row ? 5 : 50, 0));
        law(x, 0, "5");
        x.minutes(1);
        is("3 all burn but the one that came", x.heap(4), row == 4 ? 25 : 20);
        is("3 the one that came", x.armful(6 * row, 1), row == 4 ? NONE : 50);
        if (row < 4) is("3 the one that came above it", x.armful(6 * row + 6, 1), row < 3 ? 45 : NONE);
    }

    // BURNING is DRAUGHT; what is ASH leaves AIR beside those that are done later, if none comes down there.
    private static void byNumbers() {
        SmokyHeap x = new SmokyHeap();
        x.light(x.lay(0, 0, 5, 0));
        x.light(x.lay(0, 1, 99, 0));
        law(x, 0, "d");
        is("3 DRAUGHT is what it is then: AIR to the left", x.then(1, 4), 5 + 3 * 3 + 5);
        x.lay(6, 0, 9, 0);
        is("3 DRAUGHT is what it is then: one came down", x.then(1, 4), 5 + 2 * 3);
        // What is in 1 is ASH, ahead of 6; so there is AIR in 7.
        SmokyHeap y = new SmokyHeap();
        y.lay(6, 0, 9, 0);
        y.light(y.lay(0, 0, 99, 0));
        y.light(y.lay(0, 1, 3, 0));
        y.lay(6, 1, 9, 0);
        law(y, 0, "d");
        is("3 PLACES by numbers: a row, then the one above", y.then(1, 4), 3 + 3 * 3 + 5);
    }

    private static void smokeCut() {
        int[][] due = {{0, 0}, {9, 0}, {10, 1}, {29, 1}, {30, 2}, {989, 49}, {990, 50}};
        for (int[] d : due) {
            SmokyHeap x = lit(0, 9, d[0]);
            law(x, 0, "1");
            is("3 what BURNS times (WET and 10), by 20: WET " + d[0], x.then(1, 5), d[1]);
        }
        SmokyHeap x = lit(0, 9, 9);
        x.lay(0, 1, 9, 9);
        x.light(1);
        law(x, 0, "1");
        is("3 of each by itself", x.then(1, 5), 0);
    }

    private static void smokeGoes() {
        String[][] paths = {{"012", "12", "2", "345", "45", "5", "678", "78", "8"},
            {"036", "147", "258", "36", "47", "58", "6", "7", "8"}, {"0", "10", "210", "3", "43", "543", "6", "76", "876"},
            {"0", "1", "2", "30", "41", "52", "630", "741", "852"}};
        int[] halves = {500, 250, 125};
        for (int way = 0; way < 4; way++) {
            for (int home = 0; home < 9; home++) {
                SmokyHeap x = smoky();
                law(x, 2, "100");
                x.set(2, way);
                x.set(4, home);
                for (int g = 0; g < 9; g += 2) x.washing(g, 15, 15);
                x.minutes(1);
                for (int g = 0; g < 9; g++) {
                    int at = paths[way][home].indexOf('0' + g);
                    int half = at < 0 ? 0 : halves[at];
                    is("3 from HOME on, till it is out: GARDEN " + g + ", WAY " + way, x.garden(g, 0), half);
                    is("3 BOTHERED, too, if it has WASHING", x.garden(g, 1), g % 2 == 0 ? half : 0);
                }
            }
        }
        // All of it lies, from the west end: half (cut), half of the rest, and of that.
        int[][] due = {{1, 0, 0, 0}, {2, 1, 0, 0}, {3, 1, 1, 0}, {4, 2, 1, 0}, {5, 2, 1, 1}, {7, 3, 2, 1}};
        for (int[] d : due) {
            SmokyHeap x = lit(0, 99, 10);
            law(x, 0, "" + d[0]);
            law(x, 2, "100");
            x.set(4, 3);
            for (int k = 0; k < 3; k++) is("3 half of it (cut) of " + d[0], x.gardenThen(1, 3 + k, 0), d[1 + k]);
        }
        // 40 of a hundred, cut: 1 of 4, 2 of 5.
        for (int smoke = 4; smoke < 6; smoke++) {
            SmokyHeap x = lit(0, 99, 10);
            law(x, 0, "" + smoke);
            is("3 so much of a hundred, cut, of " + smoke, x.gardenThen(1, 4, 0), smoke - 4);
        }
    }

    private static void washingHours() {
        int[][] due = {{1019, 0, 500}, {1020, 500, 1000}, {1078, 500, 1000}, {1079, 500, 500}, {1080, 0, 0}};
        for (int[] d : due) {
            SmokyHeap x = smoky();
            law(x, 2, "100");
            x.washing(4, 17, 17);
            x.set(0, d[0]);
            // 900 of smoke in the second MINUTE: WET is 25 less.
            law(x, 0, "100-w+190");
            is("3 WASHING in that HOUR, of CLOCK " + d[0], x.gardenThen(1, 4, 1), d[1]);
            int second = x.gardenThen(2, 4, 0) - x.gardenThen(1, 4, 0);
            int bothered = (d[1] > 0 ? 500 : 0) + (d[0] + 1 >= 1020 && d[0] + 1 < 1080 ? second : 0);
            is("3 and in the next MINUTE's", x.gardenThen(2, 4, 1), bothered);
        }
        int[][] ends = {{1439, 23, 500}, {1439, 0, 0}, {0, 0, 500}, {0, 23, 0}};
        for (int[] e : ends) {
            SmokyHeap x = smoky();
            law(x, 2, "100");
            x.washing(4, e[1], e[1]);
            x.set(0, e[0]);
            is("3 WASHING in the first HOUR and the last", x.gardenThen(1, 4, 1), e[2]);
        }
    }

    private static void draws() {
        // z, the next one, and the WIND of it: z >>> 8 is never below 0.
        int[][] due = {{1, 1103527590, 54}, {18, -1611549725, 99}, {61, -1405034446, 0}, {109, 24089762, 0},
            {MAX, 1043980748, 49}, {MIN, -2147471303, 56}, {-1, -1103502900, 57}, {0, 12345, 48}};
        for (int[] d : due) {
            SmokyHeap x = lit(0, 999, 0);
            x.fork(0, 0);
            law(x, 0, "d+1");
            x.seed(d[0]);
            is("15 a GUST", x.gusts(1), 1);
            is("3 DRAWS: z wraps", x.count(7), d[1]);
            is("3 WIND is the draw's rest by 100", x.heap(4), d[2] + 1);
            is("3 WIND is as it was then", x.set(1, 99), 5);
            x.gusts(200);
            is("3 WIND is as it was behind 200, too", x.set(1, 0), 99);
            is("3 CLOCK", x.count(3), 900 + 201);
        }
        // WIND of 54 and 32, each GUST a draw of its own: z is 1103527590, then -1770082073.
        SmokyHeap x = lit(0, 999, 0);
        x.fork(0, 0);
        law(x, 0, "d+1");
        x.gusts(2);
        is("3 each GUST makes a draw", x.heap(4), 55 + 33);
        is("3 z of two draws", x.count(7), -1770082073);
    }

    // ---- 4: AHEAD

    private static void hours() {
        SmokyHeap x = smoky();
        is("4 HOUR: of several the least", x.hour(0, 60), 0);
        x.washing(4, 0, 0);
        is("4 HOUR: the least is 1", x.hour(0, 60), 1);
        x.washing(4, 0, 22);
        is("4 HOUR: the last", x.hour(0, 60), 23);
        x.washing(4, 1, 23);
        is("4 HOUR: the first", x.hour(0, 60), 0);
        x.washing(4, 0, 23);
        is("4 HOUR: the first by day", x.hour(0, 60), 6);
        is("4 HOUR: in no MINUTE anything", x.hour(0, 0), 0);
        law(x, 2, "23-h");
        is("4 HOUR: the last", x.hour(0, 60), 23);
        law(x, 2, "(h<22)*50");
        is("4 HOUR: of several the least", x.hour(0, 60), 22);
        law(x, 2, "99");
        is("4 HOUR: of all the least", x.hour(0, 60), 0);
        // It smokes for 60 MINUTES; not one of them is of the next HOUR.
        SmokyHeap y = lit(0, 999, 690);
        law(y, 0, "1");
        is("4 it smokes in the 60th MINUTE, too", y.then(60, 5) > y.then(59, 5) ? 1 : 0, 1);
        for (int hour = 0; hour < 24; hour++) {
            y.washing(4, 0, 23);
            y.washing(3, 0, 23);
            law(y, 2, "!(h=" + hour + ")*100");
            for (int clock : new int[] {900, 901, 945, 959}) {
                y.set(0, clock);
                is("4 HOUR: 60 MINUTES of that HOUR, CLOCK 60 times it, now " + clock, y.hour(0, 60), hour);
            }
        }
    }

    // A PAPER catches from 12 of WARM, and smokes in the second MINUTE; so WASHING drives it into the last HOUR.
    private static void litAsByHand() {
        for (int home = 0; home < 9; home += 4) {
            SmokyHeap x = smoky();
            x.set(4, home);
            x.washing(home, 0, 22);
            is("4 HOUR: in all GARDENS together, from HOME " + home, x.hour(0, 60), 23);
        }
        SmokyHeap[] all = {new SmokyHeap(), glowing(7), new SmokyHeap()};
        all[0].lay(6, 0, 9, 0);
        all[2].lay(0, 0, 9, 999);
        String[] why = {"LIVED", "LIT, of WARM 7", "WET"};
        for (int k = 0; k < 3; k++) {
            SmokyHeap x = all[k];
            x.lay(3, 1, 500, 60);
            law(x, 0, "1");
            law(x, 1, "0");
            x.washing(4, 0, 22);
            is("4 HOUR, whatever is against it: " + why[k], x.hour(0, 3), 23);
            is("4 it isn't LIT by that", x.heap(1), k == 1 ? 1 : 0);
        }
        SmokyHeap x = all[0];
        x.take(1);
        is("4 HOUR: nothing smokes", x.hour(0, 60), 0);
        SmokyHeap y = smoky();
        y.lay(6, 5, 9, 0);
        y.washing(4, 0, 22);
        is("4 HOUR: of one that doesn't smoke, while another one does", y.hour(5, 1), 23);
        spotAsByHand();
    }

    private static void spotAsByHand() {
        // Nothing burns of the LIVED one in PLACE 0; of that in PLACE 5 something, though it is wet.
        SmokyHeap x = new SmokyHeap();
        x.lay(6, 0, 9, 0);
        x.lay(0, 5, 9, 999);
        is("4 SPOT, whatever is against it: WET", x.spot(1), 5);
        x.pour(0, 999);
        law(x, 1, "0");
        is("4 SPOT, whatever is against it: the BYLAW", x.spot(1), 5);
        // BURNING is WARM: 7 of the one that is LIT, 100 if it is LIT so anew; 9 of the other one.
        SmokyHeap y = lit(0, 200, 0);
        y.pour(0, 93);
        y.lay(0, 5, 9, 0);
        law(y, 0, "r");
        is("4 SPOT: one that is LIT has WARM 100 then", y.spot(1), 0);
        is("4 SPOT: it is as it was", y.then(1, 4), 7);
        // 10 of the DRY one burn, which is LIT already; if that in PLACE 5 is LIT, 5 more.
        SmokyHeap v = new SmokyHeap();
        v.light(v.lay(1, 0, 99, 0));
        v.lay(0, 5, 99, 0);
        law(v, 0, "5");
        is("4 SPOT: those that are LIT burn, too", v.spot(1), 5);
        // A LIVED one warms two PAPERS, which burn from the second MINUTE and from the third on.
        SmokyHeap z = new SmokyHeap();
        for (int column = 0; column < 3; column++) z.lay(column == 1 ? 6 : 3, column, 999, 0);
        law(z, 0, "1");
        is("4 SPOT, whatever is against it: LIVED", z.spot(10), 1);
    }

    private static void spots() {
        SmokyHeap x = new SmokyHeap();
        for (int column = 5; column >= 0; column--) x.lay(6, column, 9, 0);
        is("4 SPOT: of several the least", x.spot(60), 0);
        x.become(4, 0);
        is("4 SPOT: the one that burns", x.spot(1), 4);
        is("4 SPOT: in no MINUTE anything", x.spot(0), 0);
        x.become(2, 0);
        is("4 SPOT: of two like ones the least", x.spot(1), 2);
        // In the third MINUTE all of STUFF 9 is burnt, of the DRY one in the second.
        x.become(5, 1);
        law(x, 0, "3");
        is("4 SPOT: the most", x.spot(2), 5);
        is("4 SPOT: with all of STUFF burnt they are alike", x.spot(3), 2);
        SmokyHeap y = new SmokyHeap();
        for (int k = 0; k < 5; k++) y.lay(6, 5, 9, 0);
        y.lay(6, 0, 9, 0);
        y.become(29, 0);
        is("4 SPOT: the last PLACE", y.spot(1), 29);
    }

    private static void outs() {
        // 100 + 8 * BURNING, less a tenth and 1; then 1 burns: WARM with 8 more by 20 dries WET, 700 is not above 700.
        int[][] due = {{666, 900}, {667, 950}, {812, 950}, {813, NONE}};
        for (int[] d : due) {
            SmokyHeap x = new SmokyHeap();
            x.lay(2, 0, 999, 0);
            x.light(0);
            law(x, 0, "" + d[0]);
            x.minutes(1);
            law(x, 0, "1");
            is("4 OUT: the least water that does, of BURNING " + d[0], x.out(1), d[1]);
        }
        int[][] glows = {{5, 0}, {6, 50}, {55, 50}, {56, 100}, {100, 100}};
        for (int[] g : glows) is("4 OUT: WARM " + g[0] + " of which nothing burns", glowing(g[0]).out(1), g[1]);
        is("4 OUT: no water, nothing LIT", new SmokyHeap().out(0), 0);
        is("4 OUT: by 0 nothing goes out", glowing(5).out(0), NONE);
        // The PAPER has WARM 9 and is dry enough by now, but not LIT: it gets no water, and catches.
        SmokyHeap x = glowing(100);
        x.lay(3, 1, 9, 61);
        x.minutes(1);
        is("4 OUT: one is LIT", x.heap(1), 1);
        is("4 OUT: by 100 that one is out", x.out(1), 100);
        x.set(3, 61);
        is("4 OUT: on each LIT ARMFUL alone", x.out(1), NONE);
        is("4 OUT: it is as it was", x.armful(0, 4) * 1000 + x.armful(1, 2), 80061);
    }

    private static void catchings() {
        // LIT now, and not behind a MINUTE.
        is("4 CATCHES: now, though it goes out", glowing(5).catches(0, 60), 0);
        is("4 CATCHES: 0 MINUTES", glowing(5).catches(0, 0), 0);
        // One that is LIT comes down into PLACE 0.
        SmokyHeap y = lit(0, 1, 0);
        y.lay(6, 0, 9, 0);
        y.become(6, 0);
        y.light(6);
        y.become(0, 6);
        y.take(0);
        is("4 CATCHES: one that came down", y.catches(0, 0), 0);
        is("4 CATCHES: AIR that it left", y.catches(6, 60), NONE);
        // From a ROSE a PAPER has 12, 19, 24 of WARM, and 26 at last: from the third MINUTE on it dries by 1 each.
        for (int minute = 3; minute < 62; minute++) {
            SmokyHeap x = new SmokyHeap();
            x.lay(2, 0, 999, 0);
            x.lay(3, 1, 50, 58 + minute);
            x.light(0);
            law(x, 0, "1");
            is("4 CATCHES: not in one less", x.catches(1, minute - 1), NONE);
            if (minute < 61) is("4 CATCHES: the first", x.catches(1, 60), minute);
            if (minute < 61) is("4 CATCHES: just in these", x.catches(1, minute), minute);
            x.minutes(minute);
            is("4 CATCHES: now", x.catches(1, 0), 0);
        }
    }

    private static void beyondTheLast() {
        SmokyHeap x = new SmokyHeap();
        for (int k = 0; k < 499; k++) x.minutes(200);
        x.minutes(199);
        x.lay(0, 0, 3, 70);
        x.set(3, 70);
        x.light(0);
        is("4 beyond 99999, too: then", x.then(60, 3), 1);
        is("4 beyond 99999, too: gardenThen", x.gardenThen(60, 4, 2), 0);
        is("4 beyond 99999, too: hour", x.hour(0, 60), 0);
        is("4 beyond 99999, too: spot", x.spot(60), 0);
        is("4 beyond 99999, too: out", x.out(60), 0);
        is("4 beyond 99999, too: catches", x.catches(1, 60), NONE);
        is("4 MINUTES are as they were", x.count(1), 99999);
    }

    private static void reaches() {
        for (int column = 0; column < 6; column++) {
            SmokyHeap alone = new SmokyHeap();
            alone.lay(0, column, 9, 0);
            is("4 REACH: alone", alone.reach(column), 1);
            alone.lay(0, column, 9, 0);
            is("4 REACH: with one above", alone.reach(column), 2);
        }
        SmokyHeap x = new SmokyHeap();
        x.lay(0, 5, 9, 0);
        pile(x, 0, 0, 2);
        is("4 REACH: 5 and 6 are not beside one another", x.reach(5), 1);
        is("4 REACH: nor 6 and 5", x.reach(6), 2);
        for (int column = 1; column < 5; column++) x.lay(0, column, 9, 0);
        is("4 REACH: a row", x.reach(5), 7);
        for (int column = 0; column < 6; column++) pile(x, 0, column, 5);
        for (int p = 0; p < 30; p += 29) is("4 REACH: the fullest HEAP", x.reach(p), 30);
        // The longest way round: up, along and down.
        SmokyHeap y = new SmokyHeap();
        for (int column = 0; column < 6; column++) pile(y, 0, column, column % 2 == 0 ? 5 : 1);
        is("4 REACH: round the ends of columns", y.reach(24), 18);
        y.take(3);
        is("4 REACH: not across AIR", y.reach(24), 11);
        is("4 REACH: the other part", y.reach(5), 6);
    }

    private static void suspects() {
        String[][] from = {{"0", "01", "012", "3", "34", "345", "6", "67", "678"}, {"0", "1", "2", "03", "14", "25", "036", "147", "258"},
            {"012", "12", "2", "345", "45", "5", "678", "78", "8"}, {"036", "147", "258", "36", "47", "58", "6", "7", "8"}};
        for (int way = 0; way < 4; way++) {
            for (int g = 0; g < 9; g++) {
                int bits = 0;
                for (char c : from[way][g].toCharArray()) bits |= 1 << c - '0';
                SmokyHeap x = new SmokyHeap();
                x.report(g, way);
                is("4 SUSPECTS: it comes to its GARDEN, or begins in it", x.suspects(), bits);
                x.report(g, way);
                is("4 SUSPECTS: of each REPORT", x.suspects(), bits);
            }
        }
        SmokyHeap x = new SmokyHeap();
        x.report(0, 0);
        x.report(8, 2);
        is("4 SUSPECTS: none is left", x.suspects(), 0);
    }

    // ---- 5: VOICES

    private static void speaks(String sentence, int kind, int place, int stuff, int voice, int x, int want) {
        SmokyHeap heap = new SmokyHeap();
        pile(heap, 6, place % 6, place / 6);
        heap.lay(kind, place % 6, stuff, 0);
        is("5 " + sentence, heap.voice(place, voice, x), want);
        is("5 " + sentence + ": PARTED", heap.told(6), want == PARTED ? 1 : 0);
    }

    private static void voices() {
        int half = 1 << 30;
        speaks("10 wraps", 0, 0, 1, 0, MAX, MIN);
        speaks("10 below 0", 0, 0, 1, 0, MIN, MIN + 1);
        speaks("11 wraps", 0, 0, 1, 1, half - 1, MIN);
        speaks("11 wraps to 0", 0, 0, 1, 1, MAX, 0);
        speaks("12 wraps", 0, 29, 1, 2, half - 1, MAX - 28);
        speaks("13 wraps", 0, 5, 4, 3, MIN, MIN);
        speaks("13 is cut", 0, 5, 3, 3, 7, -3);
        speaks("13 is cut", 0, 5, 7, 3, -7, -3);
        speaks("13 is cut to 0", 0, 5, 999, 3, -993, 0);
        speaks("20 wraps", 1, 0, 1, 0, MIN, MAX - 5);
        speaks("21 wraps", 1, 29, 30, 3, MAX, MIN + 47);
        speaks("30 of a number below 0", 2, 0, 999, 2, -2000, -2002 ^ 999);
        speaks("40 is cut toward 0", 3, 0, 8, 0, -1, 1);
        speaks("40 is cut toward 0", 3, 0, 8, 0, -7, -2);
        speaks("40 of the least", 3, 0, 7, 0, MIN, -half);
        speaks("41 of the least is that", 3, 0, 7, 1, MIN, MIN);
        speaks("41 wraps", 3, 0, 8, 1, MIN, MAX - 1);
        speaks("50 wraps", 4, 3, 20, 2, MAX, 37 ^ 20);
        speaks("51 wraps", 4, 5, 6, 3, MIN, MIN - (9 ^ 6));
        speaks("60 wraps", 5, 29, 1, 1, half - 1, MIN + 29);
        speaks("70 is 3", 6, 29, 999, 0, MIN, 3);
        speaks("70 is 3", 6, 29, 999, 0, MAX, 3);
        speaks("71", 6, 29, 999, 2, MAX, 30);
    }

    private static void parted() {
        for (int kind = 0; kind < 7; kind++) {
            for (int place = 1; place < 30; place += 14) {
                speaks("PARTED, KIND " + kind, kind, place, place, 3, 7, PARTED);
                speaks("PARTED, x 0, KIND " + kind, kind, place, place, 3, 0, PARTED);
                for (int voice = 0; voice < 3; voice++) {
                    SmokyHeap x = new SmokyHeap();
                    pile(x, 6, place % 6, place / 6);
                    x.lay(kind, place % 6, place, 0);
                    is("5 the other VOICES are not PARTED", x.voice(place, voice, 7) == PARTED ? 1 : 0, 0);
                }
            }
        }
        String[] traces = {"13", "21 13", "13", "21 13", "51 13", "13", "13"};
        for (int kind = 0; kind < 7; kind++) {
            SmokyHeap x = new SmokyHeap();
            x.lay(kind, 1, 1, 0);
            x.voice(1, 2, 5);
            is("5 PARTED", x.voice(1, 3, 5), PARTED);
            StringBuilder trace = new StringBuilder();
            for (int i = 0; i < x.count(6); i++) trace.append(i == 0 ? "" : " ").append(x.body(i));
            is("5 THE TRACE of the latest voice(), PARTED: " + trace, trace.toString().equals(traces[kind]) ? 1 : 0, 1);
            is("5 nothing begins behind that", x.body(x.count(6)), NONE);
        }
        speaks("13 by 1", 0, 29, 30, 3, 7, 7);
        speaks("13 by -1", 0, 29, 28, 3, 7, -7);
        speaks("13 in PLACE 0", 0, 0, 1, 3, 7, 7);
    }

    // ---- 6: SHEETS

    private static void lowestBits() {
        // bits, what is put, and the STUFF that is laid of it; 0: lay() refuses it.
        int[][] due = {{8, 5, 5}, {8, 127, 127}, {8, 256, 0}, {8, 257, 1}, {8, 261, 5}, {8, -251, 5}, {8, MAX - 122, 0},
            {8, MIN + 5, 5}, {8, 65541, 5}, {8, -1, 0}, {16, 999, 999}, {16, 1000, 0}, {16, 256, 256}, {16, 65536, 0},
            {16, 65537, 1}, {16, 66535, 999}, {16, 66536, 0}, {16, -64537, 999}, {16, MIN + 7, 7}, {16, -1, 0}, {16, 32768, 0},
            {32, 999, 999}, {32, 1000, 0}, {32, 257, 257}, {32, 65537, 0}, {32, MIN + 7, 0}, {32, -1, 0}};
        for (int[] d : due) {
            SmokyHeap x = new SmokyHeap();
            x.sheet(0, d[0], 4);
            x.put(0, 2, d[1]);
            is("6 of " + d[1] + " the lowest " + d[0] + " bits", x.armfuls(0), d[2] == 0 ? 0 : 1);
            is("6 they are", x.heap(0), d[2]);
            x.sheet(1, d[0], 3);
            x.move(0, 1, 1, 0, 3);
            x.sheet(0, d[0], 8);
            x.move(1, 0, 0, 1, 3);
            is("6 they stay when they are moved", x.armfuls(0), d[2] == 0 ? 0 : 1);
        }
        // What the document leaves open is read as Java reads its rows of byte: 128 to 255 are below 0.
        for (int v : new int[] {128, 200, 255}) {
            SmokyHeap x = new SmokyHeap();
            x.sheet(0, 8, 4);
            x.put(0, 2, v);
            is("6 the highest bit is that of numbers below 0", x.armfuls(0), 0);
        }
    }

    public static void main(String[] args) {
        comingDown();
        leastStuff();
        draughts();
        hoursOfClock();
        digits();
        openOnes();
        comparisons();
        ends();
        noBlanks();
        firstBytes();
        wraps();
        cutsAndZeros();
        truths();
        burningHeld();
        burnsHeld();
        lyingHeld();
        giving();
        dryingAndCooling();
        goingOut();
        catching();
        warmthHeld();
        ash();
        byNumbers();
        smokeCut();
        smokeGoes();
        washingHours();
        draws();
        hours();
        litAsByHand();
        spots();
        outs();
        catchings();
        beyondTheLast();
        reaches();
        suspects();
        voices();
        parted();
        lowestBits();
        end();
    }
}
