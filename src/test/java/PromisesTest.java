/**
 * Each promise of the document by answers that were worked out by hand: ordinary inputs, the edges
 * that it names, and wrong inputs, with the ERRORS in the order in which they are asked.
 */
public final class PromisesTest extends Ask {
    private static int fault(String text) { return -10 - law(new SmokyHeap(), 0, text); }

    private static void newObject() {
        SmokyHeap x = new SmokyHeap();
        int[] settings = {900, 5, 0, 60, 4};
        for (int k = 0; k < 8; k++) is(1, x.heap(k), 0);
        for (int g = 0; g < 9; g++) for (int k = 0; k < 3; k++) is(1, x.garden(g, k), 0);
        int[] counts = {0, 0, 0, 900, 0, 0, 0, 1};
        for (int k = 0; k < 8; k++) is(1, x.count(k), counts[k]);
        for (int k = 1; k < 7; k++) is(1, x.told(k), 0);
        for (int k = 0; k < 5; k++) is(1, x.set(k, settings[k]), settings[k]);
        for (int k = 0; k < 3; k++) is(1, x.untell(k), 0);
        for (int p = 0; p < 30; p++) is(1, x.take(p), NONE);
        for (int s = 0; s < 4; s++) is(1, x.put(s, 0, 0), NONE);
        is(1, x.may(), 1);
        is(1, x.suspects(), 511);
        is(1, x.restore(), NONE);
        is(1, x.body(0), NONE);
    }

    private static void lay() {
        SmokyHeap x = new SmokyHeap();
        for (int c = 0; c < 6; c++) {
            for (int row = 0; row < 5; row++) is(2, x.lay(6, c, 999, 999), 6 * row + c);
            is(2, x.lay(0, c, 1, 0), FULL);
            is(2, x.lay(7, c, 1, 0), BEYOND);
        }
        is(2, x.heap(0), 30 * 999);
        is(2, x.count(0), 30);
        x = new SmokyHeap();
        int[][] bad = {{-1, 0, 1, 0}, {7, 0, 1, 0}, {0, -1, 1, 0}, {0, 6, 1, 0}, {0, 0, 0, 0}, {0, 0, 1000, 0},
            {0, 0, 1, -1}, {0, 0, 1, 1000}, {MIN, 0, 1, 0}, {0, MAX, 1, 0}, {0, 0, MIN, 0}, {0, 0, 1, MAX}};
        for (int[] b : bad) is(2, x.lay(b[0], b[1], b[2], b[3]), BEYOND);
        is(2, x.told(1), bad.length);
        is(2, x.count(0), 0);
        is(2, x.lay(3, 5, 1, 0), 5);
        int[] first = {3, 1, 0, 3, 0, 0};
        for (int k = 0; k < 6; k++) is(2, x.armful(5, k), first[k]);
    }

    private static void take() {
        SmokyHeap x = new SmokyHeap();
        x.lay(0, 1, 10, 1);
        x.lay(1, 1, 20, 2);
        x.lay(3, 1, 30, 3);
        x.fork(13, 7);
        x.light(13);
        is(3, x.take(7), 20);
        // What lay above comes down as it was.
        int[] upper = {3, 30, 3, 7, 100, 1};
        for (int k = 0; k < 6; k++) is(3, x.armful(7, k), upper[k]);
        is(3, x.armful(1, 0), 0);
        is(3, x.take(13), NONE);
        is(3, x.take(7), 30);
        is(3, x.take(1), 10);
        is(3, x.take(1), NONE);
        is(3, x.take(-1), BEYOND);
        is(3, x.take(30), BEYOND);
        is(3, x.take(MIN), BEYOND);
        is(3, x.lay(0, 1, 5, 5), 1);
        is(3, x.armful(1, 3), 3);
        is(3, x.armful(1, 5), 0);
        // The least STUFF falls and counts like any other.
        SmokyHeap y = new SmokyHeap();
        y.lay(0, 0, 2, 0);
        y.lay(1, 0, 1, 9);
        is(3, y.take(0), 2);
        is(3, y.armful(0, 0), 1);
        is(19, y.heap(0), 1);
        is(19, y.heap(7), 9);
    }

    private static void armful() {
        SmokyHeap x = new SmokyHeap();
        int[] heat = {4, 5, 8, 3, 5, 3, 3};
        int[] at = {60, 30, 120, 6, 120, 90, 10000};
        for (int k = 0; k < 7; k++) {
            is(4, x.lay(k, k % 6, 10 + k, 20 + k), k);
            is(4, x.armful(k, 0), k);
            is(4, x.armful(k, 1), 10 + k);
            is(4, x.armful(k, 2), 20 + k);
            is(4, x.armful(k, 7), heat[k]);
            is(4, x.armful(k, 8), at[k]);
        }
        is(4, x.armful(0, 9), BEYOND);
        is(4, x.armful(0, -1), BEYOND);
        is(4, x.armful(30, 0), BEYOND);
        is(4, x.armful(-1, 0), BEYOND);
        is(4, x.armful(29, 9), BEYOND);
        is(4, x.armful(29, 8), NONE);
        draughts();
    }

    private static void draughts() {
        SmokyHeap x = new SmokyHeap();
        x.lay(0, 0, 9, 0);
        x.lay(0, 1, 9, 0);
        x.lay(0, 1, 9, 0);
        x.lay(0, 5, 9, 0);
        // Left of 0 is beside the HEAP, 1 stands right of it, 6 is AIR; below is the ground.
        is(4, x.armful(0, 6), 2 * 3 + 5);
        is(4, x.armful(1, 6), 3);
        is(4, x.armful(7, 6), 3 * 3 + 5);
        is(4, x.armful(5, 6), 3 * 3 + 5);
        x.set(2, 2);
        is(4, x.armful(0, 6), 2 * 3);
        is(4, x.armful(1, 6), 3 + 5);
        is(4, x.armful(5, 6), 3 * 3 + 5);
        for (int way = 1; way < 4; way += 2) {
            x.set(2, way);
            is(4, x.armful(0, 6), 2 * 3 + 5);
            is(4, x.armful(1, 6), 3);
            is(4, x.armful(7, 6), 3 * 3 + 5);
        }
        x.fork(7, 9);
        x.set(1, 99);
        is(4, x.armful(7, 6), 3 * 9 + 99);
        x.fork(7, 0);
        is(4, x.armful(7, 6), 99);
        // The highest row has what is above the HEAP over it.
        pile(x, 0, 3, 5);
        is(4, x.armful(27, 6), 3 * 3 + 99);
        is(4, x.armful(21, 6), 2 * 3);
        // Right of 5 is beside the HEAP, whatever stands at 6.
        SmokyHeap y = new SmokyHeap();
        pile(y, 0, 5, 1);
        pile(y, 0, 0, 5);
        y.set(2, 2);
        is(4, y.armful(5, 6), 3 * 3 + 5);
        is(4, y.armful(6, 6), 2 * 3 + 5);
        is(4, y.armful(24, 6), 3 * 3 + 5);
        y.set(2, 3);
        is(4, y.armful(24, 6), 3 * 3 + 5);
        is(4, y.armful(18, 6), 2 * 3);
    }

    private static void as() {
        SmokyHeap x = new SmokyHeap();
        int[] under = {0b1, 0b11, 0b101, 0b1011, 0b10101, 0b100001, 0b1100001};
        for (int k = 0; k < 7; k++) {
            int p = x.lay(k, k % 6, 40 + k, 0);
            for (int w = 0; w < 7; w++) is(5, x.as(p, w), (under[k] >> w & 1) != 0 ? 40 + k : KIND);
        }
        is(5, x.as(0, 7), BEYOND);
        is(5, x.as(0, -1), BEYOND);
        is(5, x.as(30, 0), BEYOND);
        is(5, x.as(20, 7), BEYOND);
        is(5, x.as(20, 6), NONE);
    }

    private static void become() {
        SmokyHeap x = new SmokyHeap();
        x.lay(3, 2, 40, 5);
        x.fork(2, 8);
        x.light(2);
        is(6, x.become(2, 6), 3);
        int[] then = {6, 40, 5, 8, 100, 1};
        for (int k = 0; k < 6; k++) is(6, x.armful(2, k), then[k]);
        is(6, x.become(2, 6), 6);
        is(6, x.become(2, 0), 6);
        is(6, x.armful(2, 8), 60);
        is(6, x.become(2, 7), BEYOND);
        is(6, x.become(2, -1), BEYOND);
        is(6, x.become(-1, 0), BEYOND);
        is(6, x.become(3, 7), BEYOND);
        is(6, x.become(3, 0), NONE);
        is(6, x.armful(2, 0), 0);
    }

    private static void light() {
        SmokyHeap x = new SmokyHeap();
        x.lay(0, 0, 50, 60);
        x.lay(0, 1, 50, 61);
        x.lay(6, 2, 50, 0);
        is(7, x.light(1), STATE);
        is(7, x.light(2), STATE);
        is(7, x.light(3), NONE);
        is(7, x.light(30), BEYOND);
        is(7, x.light(-1), BEYOND);
        is(7, law(x, 1, "0"), 1);
        is(7, x.light(0), STATE);
        is(7, x.armful(0, 5), 0);
        is(7, x.armful(0, 4), 0);
        is(7, law(x, 1, "!l"), 1);
        is(7, x.light(0), 1);
        is(7, x.armful(0, 4), 100);
        is(7, x.light(0), STATE);
        x.set(3, 61);
        // One is LIT, so this BYLAW is against it now.
        is(7, x.light(1), STATE);
        x.untell(1);
        is(7, x.light(1), 1);
        is(7, x.heap(1), 2);
        // 100 is no more than WARM is: it stays.
        SmokyHeap y = new SmokyHeap();
        y.lay(3, 0, 999, 0);
        y.light(0);
        law(y, 0, "900");
        y.minutes(1);
        // 999 of PAPER's 6 * 900 burn: it is ASH.
        is(7, y.heap(3), 1);
        y.lay(2, 0, 999, 0);
        y.light(0);
        y.minutes(1);
        // 900 burn, 8 * 900 and 100: 7300; less 730 and 1.
        is(7, y.armful(0, 4), 6569);
        y.pour(0, 999);
        is(7, y.armful(0, 4), 5570);
        // WET 999 puts it out in the next MINUTE, WARM stays above 100.
        law(y, 0, "1");
        y.minutes(1);
        is(7, y.armful(0, 5), 0);
        int warm = y.armful(0, 4);
        y.set(3, 999);
        is(7, y.light(0), 1);
        is(7, y.armful(0, 4), warm);
    }

    private static void fork() {
        SmokyHeap x = new SmokyHeap();
        x.lay(0, 4, 1, 1);
        is(8, x.fork(4, 9), 3);
        is(8, x.fork(4, 0), 9);
        is(8, x.armful(4, 3), 0);
        is(8, x.fork(4, 10), BEYOND);
        is(8, x.fork(4, -1), BEYOND);
        is(8, x.fork(30, 1), BEYOND);
        is(8, x.fork(5, 10), BEYOND);
        is(8, x.fork(5, 1), NONE);
        is(8, x.armful(4, 3), 0);
    }

    private static void pour() {
        SmokyHeap x = new SmokyHeap();
        x.lay(0, 4, 50, 20);
        x.light(4);
        is(9, x.pour(4, 0), 20);
        is(9, x.pour(4, 30), 50);
        is(9, x.armful(4, 4), 70);
        is(9, x.pour(4, 71), 121);
        is(9, x.armful(4, 4), 0);
        is(9, x.armful(4, 5), 1);
        is(9, x.pour(4, 878), 999);
        is(9, x.pour(4, 999), 999);
        is(9, x.pour(4, 1000), BEYOND);
        is(9, x.pour(4, -1), BEYOND);
        is(9, x.pour(-1, 1), BEYOND);
        is(9, x.pour(3, 1000), BEYOND);
        is(9, x.pour(3, 1), NONE);
    }

    private static void set() {
        SmokyHeap x = new SmokyHeap();
        int[] first = {900, 5, 0, 60, 4};
        int[] most = {1439, 99, 3, 999, 8};
        for (int k = 0; k < 5; k++) {
            is(10, x.set(k, most[k] + 1), BEYOND);
            is(10, x.set(k, -1), BEYOND);
            is(10, x.set(k, MAX), BEYOND);
            is(10, x.set(k, most[k]), first[k]);
            is(10, x.set(k, 0), most[k]);
            is(10, x.set(k, 1), 0);
        }
        is(10, x.set(5, 0), BEYOND);
        is(10, x.set(-1, 0), BEYOND);
        is(10, x.set(MIN, 0), BEYOND);
        is(10, x.count(3), 1);
    }

    private static void feed() {
        SmokyHeap x = new SmokyHeap();
        is(11, x.feed(0, 0), BEYOND);
        is(11, x.feed(0, 9), BEYOND);
        is(11, x.feed(0, MIN), BEYOND);
        is(11, x.feed(-1L, 1), 1);
        is(11, x.text(0), -10);
        for (int k = 1; k <= 7; k++) is(11, x.feed(0x2b312b312b312b31L, 8), 8 * k);
        is(11, x.feed(0, 5), FULL);
        is(11, x.feed(0, 9), BEYOND);
        is(11, x.feed(0x2b2b312bL, 2), 58);
        is(11, x.feed(0, 3), FULL);
        is(11, x.feed(0x2b31L, 2), 60);
        is(11, x.feed(0, 1), FULL);
        is(11, x.count(4), 60);
        // "1+1+ .. 1+" and then "+1": the place of the second plus.
        is(11, x.text(0), -10 - 56);
        // The lowest byte comes first, the highest ones of the word don't.
        SmokyHeap y = new SmokyHeap();
        is(11, y.feed(0x7a7a7a7a30313233L, 4), 4);
        is(11, y.text(1), 1);
        is(11, y.may(), 1);
        is(11, y.feed(0x3332317a7a7a7a7aL >>> 40, 3), 3);
        is(11, y.feed(0x3030303030303d68L, 2), 5);
        is(11, y.text(1), -10 - 3);
    }

    private static void text() {
        SmokyHeap x = new SmokyHeap();
        is(12, x.text(0), -10);
        x.feed('1', 1);
        is(12, x.text(3), BEYOND);
        is(12, x.text(-1), BEYOND);
        is(12, x.count(4), 1);
        is(12, x.text(1), 1);
        is(12, x.count(4), 0);
        is(12, law(x, 1, "0"), 1);
        is(12, x.may(), 0);
        is(12, law(x, 1, "1+"), -12);
        is(12, x.count(4), 0);
        is(12, x.may(), 0);
        is(12, x.told(1), 2);
        names();
        faults();
        values();
    }

    private static void names() {
        String[] names = {"dswr", "hwln", "hws"};
        for (int use = 0; use < 3; use++) {
            for (int c = 0; c < 256; c++) {
                boolean good = names[use].indexOf(c) >= 0 || c >= '0' && c <= '9';
                boolean open = c == '!' || c == '(';
                SmokyHeap x = new SmokyHeap();
                x.feed(c, 1);
                is(12, x.text(use), good ? 1 : open ? -11 : -10);
            }
        }
    }

    private static void faults() {
        String[] good = {"1", "1234", "0000", "d", "!d", "!!!!!d", "(((((d)))))", "!(!(!d))", "1<2", "1<2&2<3|4=5",
            "(1<2)<3", "1<(2<3)", "1+2-3*4/5%6", "!1+!2", "!!!!!1+!!!!!2", "(1)(".substring(0, 3), "(1)+((((2))))+((((3))))",
            "d*d-s/w%r", "!(1)", "(!1)", "1-(2)", "((1|0)&(1))"};
        for (String s : good) is(12, law(new SmokyHeap(), 0, s), 1);
        Object[][] bad = {{"12345", 4}, {"!!!!!!d", 5}, {"((((((d", 5}, {"!(!(!(", 5}, {"1<2<3", 3}, {"1=2>3", 3},
            {"(1<2<3)", 4}, {"1<2|3<4<5", 7}, {"1<2&3=4=5", 7}, {"d1", 1}, {"1d", 1}, {"dd", 1}, {"1(", 1}, {"(1)1", 3},
            {"(1)(", 3}, {"1!", 1}, {"1+", 2}, {"+1", 0}, {"-1", 0}, {"()", 1}, {"(1", 2}, {"(", 1}, {"1)", 1},
            {"(1+)", 3}, {"1 +1", 1}, {" 1", 0}, {"1||1", 2}, {"1&|1", 2}, {"1<=2", 2}, {"1==2", 2}, {"h", 0},
            {"1+h", 2}, {"!", 1}, {"!+", 1}, {"(((((1+!1", 7}, {"(1))", 3}, {"1\0", 1}, {"00000", 4}, {"!)", 1},
            {"(((((1)", 7}, {"(1)12", 3}, {"d(", 1}, {"1~", 1}, {"((((!(1", 5}};
        for (Object[] b : bad) is(12, fault((String) b[0]), (Integer) b[1]);
        // All 60 bytes can be a TEXT, and be one that ends too early.
        String long59 = "1+".repeat(29) + "1";
        is(12, law(new SmokyHeap(), 0, long59), 1);
        is(12, law(new SmokyHeap(), 0, long59 + "2"), 1);
        is(12, fault(long59 + "+"), 60);
    }

    /** A value, by a BYLAW that compares it. */
    private static void worth(String text, String want) {
        SmokyHeap x = new SmokyHeap();
        x.lay(0, 0, 1, 0);
        x.lay(0, 0, 1, 0);
        x.lay(0, 0, 1, 0);
        x.light(0);
        is(12, law(x, 1, "(" + text + ")=" + want), 1);
        is(12, x.may(), 1);
    }

    private static void values() {
        // HOUR 15, WIND 5, one LIT, three ARMFULS.
        String[][] all = {{"h", "15"}, {"w", "5"}, {"l", "1"}, {"n", "3"}, {"2+3*4", "14"}, {"20-3-4", "13"},
            {"100/10/5", "2"}, {"17%10%4", "3"}, {"2*7%5", "4"}, {"7/2*2", "6"}, {"(0-7)/2", "0-3"}, {"(0-7)%3", "0-1"},
            {"7%(0-3)", "1"}, {"5/0", "0"}, {"5%0", "0"}, {"0/0", "0"}, {"!0", "1"}, {"!7", "0"}, {"!!7", "1"},
            {"!0+1", "2"}, {"!(0+1)", "0"}, {"7|0", "1"}, {"0|0", "0"}, {"7&8", "1"}, {"7&0", "0"}, {"0|2&0", "0"},
            {"1|0&0", "1"}, {"1<2", "1"}, {"2<1", "0"}, {"2<2", "0"}, {"2>1", "1"}, {"2>2", "0"}, {"2=2", "1"},
            {"1+1=2", "1"}, {"1<2&2<1", "0"}, {"1<2|2<1", "1"}, {"0010", "10"}, {"4096*4096*256", "0"},
            {"0-8192*8192*32=8192*8192*32", "1"}, {"(0-8192*8192*32)/(0-1)", "8192*8192*32"},
            {"(8192*8192*32)%(0-1)", "0"}, {"8192*8192*32<0", "1"}, {"h*w-l", "74"}, {"n-!n", "3"}};
        for (String[] a : all) worth(a[0], a[1]);
        SmokyHeap x = new SmokyHeap();
        // What was read ahead of a TEXT is not in it.
        String much = "(1+2)*".repeat(9) + "h-15";
        for (int k = 0; k < 3; k++) {
            is(12, law(x, 1, much), 1);
            is(12, x.may(), 1);
            is(12, law(x, 1, "h=14"), 1);
            is(12, x.may(), 0);
            is(12, law(x, 1, "1+1+)"), -14);
            is(12, law(x, 1, "h-15"), 1);
            is(12, x.may(), 0);
        }
    }

    private static void untell() {
        SmokyHeap x = new SmokyHeap();
        for (int use = 0; use < 3; use++) {
            is(13, x.untell(use), 0);
            law(x, use, "0");
            is(13, x.untell(use), 1);
            is(13, x.untell(use), 0);
        }
        is(13, x.may(), 1);
        is(13, x.untell(3), BEYOND);
        is(13, x.untell(-1), BEYOND);
    }

    private static void minutes() {
        SmokyHeap x = new SmokyHeap();
        is(14, x.minutes(0), BEYOND);
        is(14, x.minutes(201), BEYOND);
        is(14, x.minutes(-1), BEYOND);
        is(14, x.count(1), 0);
        x.lay(0, 0, 50, 40);
        x.light(0);
        is(14, x.minutes(1), 1);
        // DRAUGHT 14: 4 burn; 116 warm: WET 5 less; then less 11 and 1. Smoke 4 * 50 / 20, two fifths lie.
        int[] one = {0, 46, 35, 3, 104, 1};
        for (int k = 0; k < 6; k++) is(14, x.armful(0, k), one[k]);
        is(14, x.heap(5), 10);
        is(14, x.heap(4), 4);
        is(14, x.garden(4, 0), 2);
        is(14, x.garden(5, 0), 1);
        is(14, x.minutes(1), 2);
        int[] two = {0, 42, 29, 3, 107, 1};
        for (int k = 0; k < 6; k++) is(14, x.armful(0, k), two[k]);
        is(14, x.heap(5), 19);
        is(14, x.garden(4, 0), 3);
        is(14, x.garden(5, 0), 2);
        is(14, x.garden(3, 0), 0);
        is(14, x.count(3), 902);
        warmth();
        ashes();
        kindsBurn();
        catching();
        lastMinutes();
    }

    private static void warmth() {
        SmokyHeap x = new SmokyHeap();
        x.lay(1, 0, 100, 10);
        x.lay(0, 1, 30, 65);
        x.light(0);
        x.minutes(1);
        // DRAUGHT 11: 3, DRY 6; 130 warm, an eighth (16) to the right one, which gives 2 back.
        int[] left = {1, 94, 5, 3, 104, 1};
        int[] right = {0, 30, 65, 3, 12, 0};
        for (int k = 0; k < 6; k++) is(14, x.armful(0, k), left[k]);
        for (int k = 0; k < 6; k++) is(14, x.armful(1, k), right[k]);
        // Left, right, above, below, of what is left each time: the middle of a cross.
        SmokyHeap y = new SmokyHeap();
        pile(y, 6, 0, 2);
        pile(y, 6, 1, 3);
        pile(y, 6, 2, 2);
        y.become(7, 2);
        law(y, 0, "100-r");
        y.light(7);
        y.minutes(1);
        // 1 burns (100 - 100 held at 1): 108; 13 to the left: 95; 11: 84; 10: 74; 9 below: 65; the three
        // behind it are done later: 8 (right of 7) has 11 and its own neighbour 2 below it and 7 beside it.
        is(14, y.armful(1, 4), 9);
        is(14, y.armful(6, 4), 13);
        // 8: 11, gives 1 to the left (7), 1 of 10 below (2): 9; less 0 and 1.
        is(14, y.armful(8, 4), 8);
        is(14, y.armful(2, 4), 1);
        // 13: 10, gives 1 below (7): 9; less 0 and 1.
        is(14, y.armful(13, 4), 8);
        // 7: 65 less 6 and 1, and 1 from 8, 1 from 13.
        is(14, y.armful(7, 4), 60);
        is(14, y.heap(2), 9 + 13 + 8 + 1 + 8 + 60);
        // 5 and 6 are not beside one another, nor is anything above the highest row.
        SmokyHeap z = new SmokyHeap();
        pile(z, 0, 5, 1);
        pile(z, 0, 0, 5);
        z.light(5);
        z.minutes(1);
        is(14, z.armful(6, 4), 0);
        is(14, z.heap(2), z.armful(5, 4));
        z.light(24);
        z.minutes(1);
        // 4 burn: 116 warm; 14 go below: 102; less 10 and 1.
        is(14, z.armful(24, 4), 91);
        is(14, z.armful(18, 4), 14);
        heldWarmth();
    }

    private static void heldWarmth() {
        // Each burns 998: 8084 at 0, 9094 at 1, 8968 at 6, and 7, to which 994 and 1121 came, would have 10199.
        SmokyHeap x = new SmokyHeap();
        for (int k = 0; k < 4; k++) x.lay(2, k % 2, 999, 0);
        for (int k = 0; k < 4; k++) x.light(k < 2 ? k : k + 4);
        law(x, 0, "998");
        x.minutes(1);
        // 9999 less 1249 to the left, less 1093 below: 7657; less 765 and 1.
        is(14, x.armful(7, 4), 6891);
        // WET does not go below 0.
        is(14, x.heap(7), 0);
        x.lay(0, 4, 50, 3);
        x.light(4);
        law(x, 0, "1");
        x.minutes(1);
        is(14, x.armful(4, 2), 0);
    }

    private static void ashes() {
        SmokyHeap x = new SmokyHeap();
        x.lay(0, 0, 3, 0);
        x.lay(0, 0, 40, 0);
        x.lay(0, 0, 50, 0);
        law(x, 0, "3");
        x.light(0);
        x.light(6);
        x.light(12);
        x.minutes(1);
        // 0 is ASH and gives no warmth; what lay at 6 comes there and is not done; what lay at 12 is, at 6.
        is(14, x.heap(3), 1);
        is(14, x.count(0), 2);
        is(14, x.armful(0, 1), 40);
        is(14, x.armful(6, 1), 47);
        is(14, x.armful(12, 1), NONE);
        // 112 at 6: 14 go below; 98 less 9 and 1.
        is(14, x.armful(0, 4), 114);
        is(14, x.armful(6, 4), 88);
        is(14, x.heap(4), 6);
        // 3 * 10 / 20 each, cut by itself.
        is(14, x.heap(5), 2);
    }

    private static void kindsBurn() {
        int[] burns = {5, 10, 5, 30, 2, 2, 0};
        for (int kind = 0; kind < 7; kind++) {
            SmokyHeap x = new SmokyHeap();
            x.lay(0, 0, 100, 30);
            x.light(0);
            x.become(0, kind);
            law(x, 0, "5");
            x.minutes(1);
            is(14, x.armful(0, 1), 100 - burns[kind]);
            is(14, x.heap(4), burns[kind]);
            is(14, x.heap(5), burns[kind] * 40 / 20);
            int warm = 100 + burns[kind] * x.armful(0, 7);
            is(14, x.armful(0, 2), 30 - warm / 20);
            is(14, x.armful(0, 4), warm - warm / 10 - 1);
            is(14, law(x, 0, "0-9"), 1);
            is(14, x.then(1, 4) - x.heap(4), kind == 1 ? 2 : kind == 3 ? 6 : kind > 3 ? 0 : 1);
            is(14, law(x, 0, "s*9999"), 1);
            int left = x.armful(0, 1);
            is(14, x.then(1, 4) - x.heap(4), kind < 4 ? left : kind < 6 ? left / 2 : 0);
        }
        // WARM is held at 9999.
        SmokyHeap x = new SmokyHeap();
        x.lay(2, 0, 999, 0);
        x.lay(2, 1, 999, 0);
        x.light(0);
        x.light(1);
        law(x, 0, "998");
        x.minutes(1);
        // 100 + 7984: 8084, 1010 go to 1, which has 1110 + 7984 = 9094: 1136 back: (7074 - 708) + 1136.
        is(14, x.armful(0, 4), 7074 - 707 - 1 + 1136);
        is(14, x.armful(1, 4), 7958 - 795 - 1);
    }

    private static void catching() {
        SmokyHeap x = new SmokyHeap();
        x.lay(2, 0, 500, 0);
        x.lay(3, 1, 50, 60);
        x.lay(6, 2, 50, 0);
        x.light(0);
        // Held WARM of 100: the paper gets 12 and more, gives 1 back and 1 on, and catches at 6.
        law(x, 0, "1");
        x.minutes(1);
        is(14, x.armful(1, 5), 1);
        is(14, x.armful(2, 5), 0);
        // WET above DRYNESS, however warm, does not catch; at DRYNESS it does.
        SmokyHeap y = new SmokyHeap();
        y.lay(2, 0, 500, 0);
        y.lay(3, 1, 50, 61);
        y.light(0);
        law(y, 0, "1");
        y.minutes(1);
        is(14, y.armful(1, 5), 0);
        y.set(3, 61);
        y.minutes(1);
        is(14, y.armful(1, 5), 1);
        // WARM that is just CATCH does, one less does not: an eighth of 48 comes, and of 47.
        for (int water = 52; water < 54; water++) {
            SmokyHeap u = new SmokyHeap();
            u.lay(0, 0, 9, 0);
            u.light(0);
            u.pour(0, water);
            u.become(0, 6);
            u.lay(3, 1, 9, 0);
            u.minutes(1);
            is(14, u.armful(1, 4), water == 52 ? 5 : 4);
            is(14, u.armful(1, 5), water == 52 ? 1 : 0);
        }
        // WARM below 5 ends it: a DAMP of which 0 burn loses a tenth and 1 each MINUTE.
        SmokyHeap z = new SmokyHeap();
        z.lay(4, 0, 500, 0);
        z.light(0);
        z.pour(0, 93);
        z.set(3, 0);
        law(z, 0, "1");
        z.minutes(1);
        is(14, z.armful(0, 4), 6);
        is(14, z.armful(0, 5), 1);
        z.minutes(1);
        is(14, z.armful(0, 4), 5);
        is(14, z.armful(0, 5), 1);
        z.minutes(1);
        is(14, z.armful(0, 4), 4);
        is(14, z.armful(0, 5), 0);
        z.minutes(9);
        is(14, z.armful(0, 4), 0);
        is(14, z.heap(4), 0);
        // WET above 700 ends it, 700 does not: 100 by 20 dry away first, so 705 is 700 then.
        for (int more = 705; more < 707; more++) {
            SmokyHeap v = new SmokyHeap();
            v.lay(6, 0, 9, more);
            v.become(0, 4);
            v.set(3, 999);
            v.light(0);
            v.minutes(1);
            is(14, v.armful(0, 2), more - 5);
            is(14, v.armful(0, 5), more == 705 ? 1 : 0);
        }
    }

    private static void lastMinutes() {
        SmokyHeap x = new SmokyHeap();
        for (int k = 0; k < 499; k++) x.minutes(200);
        is(14, x.minutes(200), STATE);
        is(15, x.gusts(200), STATE);
        is(15, x.gusts(201), BEYOND);
        is(14, x.minutes(199), 99999);
        is(14, x.minutes(1), STATE);
        is(15, x.gusts(1), STATE);
        is(15, x.count(7), 1);
        is(14, x.count(1), 99999);
        is(14, x.count(3), (900 + 99999) % 1440);
        is(21, x.then(60, 0), 0);
        SmokyHeap y = new SmokyHeap();
        for (int k = 0; k < 499; k++) y.minutes(200);
        is(15, y.gusts(200), STATE);
        is(15, y.gusts(199), 99999);
    }

    private static void gusts() {
        SmokyHeap x = new SmokyHeap();
        is(15, x.gusts(0), BEYOND);
        is(15, x.gusts(201), BEYOND);
        is(15, x.count(7), 1);
        x.lay(0, 0, 999, 0);
        x.light(0);
        x.set(1, 33);
        law(x, 0, "d-8");
        // z is 1103527590 then; by 256: 4310654; WIND 54; DRAUGHT 9 + 54: 55 burn.
        is(15, x.gusts(1), 1);
        is(15, x.count(7), 1103527590);
        is(15, x.heap(4), 55);
        is(15, x.set(1, 33), 33);
        // z is -1770082073: as 32 bits 2524885223; by 256: 9862832; WIND 32.
        int z = -1770082073;
        is(15, x.gusts(1), 2);
        is(15, x.count(7), z);
        is(15, x.heap(4), 55 + 33);
        is(15, x.seed(1), z);
        x.gusts(200);
        is(15, x.count(1), 202);
        x.seed(1);
        int draws = 1;
        for (int k = 0; k < 7; k++) draws = draws * 1103515245 + 12345;
        x.gusts(7);
        is(15, x.count(7), draws);
        // LYING hears the WIND of the GUST.
        SmokyHeap y = new SmokyHeap();
        y.lay(0, 0, 999, 90);
        y.set(3, 90);
        y.light(0);
        law(y, 0, "100");
        law(y, 2, "(w=54)*100");
        y.gusts(1);
        is(15, y.heap(5), 500);
        is(15, y.garden(4, 0), 250);
    }

    private static void seed() {
        SmokyHeap x = new SmokyHeap();
        is(16, x.seed(MIN), 1);
        is(16, x.seed(-1000001), MIN);
        is(16, x.seed(MAX), -1000001);
        is(16, x.count(7), MAX);
        for (int k = 1; k < 7; k++) is(16, x.told(k), 0);
        x.gusts(1);
        is(16, x.count(7), MAX * 1103515245 + 12345);
    }

    private static void washing() {
        SmokyHeap x = new SmokyHeap();
        is(17, x.washing(8, 0, 23), 24);
        is(17, x.garden(8, 2), 0xffffff);
        is(17, x.washing(8, 23, 23), 1);
        is(17, x.garden(8, 2), 1 << 23);
        is(17, x.washing(8, 3, 5), 3);
        is(17, x.garden(8, 2), 0b111000);
        is(17, x.washing(8, 24, 24), BEYOND);
        is(17, x.washing(8, 24, 3), BEYOND);
        is(17, x.washing(8, 0, 24), BEYOND);
        is(17, x.washing(8, -1, 3), BEYOND);
        is(17, x.washing(8, 3, -1), BEYOND);
        is(17, x.washing(9, 3, 3), BEYOND);
        is(17, x.washing(-1, 3, 3), BEYOND);
        is(17, x.garden(8, 2), 0b111000);
        is(17, x.washing(8, 5, 4), 0);
        is(17, x.garden(8, 2), 0);
        is(17, x.garden(7, 2), 0);
        is(17, x.washing(0, 0, 0), 1);
        is(17, x.garden(0, 2), 1);
    }

    /** A HEAP that makes 1000 of smoke in its first MINUTE. */
    private static SmokyHeap smoky() {
        SmokyHeap x = new SmokyHeap();
        x.set(3, 190);
        x.lay(0, 0, 999, 190);
        x.light(0);
        law(x, 0, "100");
        return x;
    }

    private static void garden() {
        // 400 of 1000 lie: half of it, half of the rest, and so on, by each WAY.
        int[][] halves = {{0, 0, 0, 0, 200, 100, 0, 0, 0}, {0, 0, 0, 0, 200, 0, 0, 100, 0},
            {0, 0, 0, 100, 200, 0, 0, 0, 0}, {0, 100, 0, 0, 200, 0, 0, 0, 0}};
        for (int way = 0; way < 4; way++) {
            SmokyHeap x = smoky();
            x.set(2, way);
            x.washing(4, 15, 15);
            x.washing(5, 14, 14);
            x.washing(3, 16, 16);
            x.minutes(1);
            for (int g = 0; g < 9; g++) is(18, x.garden(g, 0), halves[way][g]);
            for (int g = 0; g < 9; g++) is(18, x.garden(g, 1), g == 4 ? 200 : 0);
        }
        SmokyHeap x = smoky();
        x.set(4, 2);
        x.set(2, 2);
        x.set(0, 1079);
        x.washing(0, 18, 18);
        x.washing(1, 17, 17);
        x.minutes(1);
        is(18, x.garden(2, 0), 200);
        is(18, x.garden(1, 0), 100);
        is(18, x.garden(0, 0), 50);
        is(18, x.garden(1, 1), 100);
        is(18, x.garden(0, 1), 0);
        is(18, x.garden(9, 0), BEYOND);
        is(18, x.garden(-1, 0), BEYOND);
        is(18, x.garden(0, 3), BEYOND);
        is(18, x.garden(0, -1), BEYOND);
        lying();
    }

    private static void lying() {
        int[] clocks = {0, 359, 360, 1079, 1080, 1439};
        int[] shares = {90, 90, 40, 40, 90, 90};
        for (int k = 0; k < 6; k++) {
            SmokyHeap x = smoky();
            x.set(0, clocks[k]);
            x.minutes(1);
            is(18, x.garden(4, 0), 5 * shares[k]);
            is(18, x.count(3), clocks[k] == 1439 ? 0 : clocks[k] + 1);
        }
        String[] laws = {"0-5", "0", "101", "s-970", "h", "w*3"};
        int[] lies = {0, 0, 1000, 300, 150, 150};
        for (int k = 0; k < 6; k++) {
            SmokyHeap x = smoky();
            law(x, 2, laws[k]);
            x.minutes(1);
            is(18, x.heap(5), 1000);
            is(18, x.garden(4, 0), lies[k] / 2);
        }
    }

    private static void heap() {
        SmokyHeap x = new SmokyHeap();
        x.lay(0, 0, 50, 20);
        x.lay(1, 0, 40, 30);
        x.lay(3, 4, 5, 0);
        x.light(0);
        x.light(4);
        int[] all = {95, 2, 200, 0, 0, 0, 2, 50};
        for (int k = 0; k < 8; k++) is(19, x.heap(k), all[k]);
        is(19, x.heap(8), BEYOND);
        is(19, x.heap(-1), BEYOND);
        x.minutes(1);
        // DRAUGHT 11 at 0: 3 burn, 3 * 30 / 20; the paper's 5 are ASH, 5 * 10 / 20.
        is(19, x.heap(3), 1);
        is(19, x.heap(4), 8);
        is(19, x.heap(5), 4 + 2);
        is(19, x.heap(0), 87);
        x.take(0);
        is(19, x.heap(6), 1);
        x.take(0);
        is(19, x.heap(6), 0);
        is(19, x.heap(2), 0);
        is(19, x.heap(7), 0);
        is(19, x.heap(1), 0);
        is(19, x.heap(4), 8);
    }

    private static void may() {
        SmokyHeap x = new SmokyHeap();
        is(20, x.may(), 1);
        law(x, 1, "h>14&w<6&n<2");
        is(20, x.may(), 1);
        x.set(1, 6);
        is(20, x.may(), 0);
        x.set(1, 5);
        x.set(0, 899);
        is(20, x.may(), 0);
        x.set(0, 900);
        x.lay(0, 0, 1, 0);
        is(20, x.may(), 1);
        x.lay(0, 0, 1, 0);
        is(20, x.may(), 0);
        law(x, 1, "0-l");
        is(20, x.may(), 0);
        x.untell(1);
        x.light(0);
        law(x, 1, "0-l");
        is(20, x.may(), 1);
    }

    private static void then() {
        SmokyHeap x = new SmokyHeap();
        x.lay(0, 0, 50, 40);
        x.light(0);
        int[] now = {50, 1, 100, 0, 0, 0, 1, 40};
        int[] two = {42, 1, 107, 0, 8, 19, 1, 29};
        for (int k = 0; k < 8; k++) is(21, x.then(0, k), now[k]);
        for (int k = 0; k < 8; k++) is(21, x.then(2, k), two[k]);
        for (int k = 0; k < 8; k++) is(21, x.heap(k), now[k]);
        is(21, x.count(3), 900);
        is(21, x.count(1), 0);
        is(21, x.then(61, 0), BEYOND);
        is(21, x.then(-1, 0), BEYOND);
        is(21, x.then(0, 8), BEYOND);
        is(21, x.then(0, -1), BEYOND);
        is(21, x.then(60, 3), 1);
        is(22, x.gardenThen(2, 4, 0), 3);
        is(22, x.gardenThen(2, 5, 0), 2);
        is(22, x.garden(4, 0), 0);
    }

    private static void gardenThen() {
        SmokyHeap x = smoky();
        x.washing(5, 15, 16);
        is(22, x.gardenThen(0, 4, 0), 0);
        is(22, x.gardenThen(1, 4, 0), 200);
        is(22, x.gardenThen(1, 5, 1), 100);
        is(22, x.gardenThen(1, 5, 2), 3 << 15);
        is(22, x.gardenThen(61, 4, 0), BEYOND);
        is(22, x.gardenThen(-1, 4, 0), BEYOND);
        is(22, x.gardenThen(1, 9, 0), BEYOND);
        is(22, x.gardenThen(1, -1, 0), BEYOND);
        is(22, x.gardenThen(1, 4, 3), BEYOND);
        is(22, x.gardenThen(1, 4, -1), BEYOND);
        is(22, x.garden(4, 0), 0);
    }

    private static void hour() {
        SmokyHeap x = smoky();
        is(23, x.hour(0, 60), 0);
        x.washing(4, 0, 9);
        x.washing(5, 5, 23);
        // By night 900 lie, by day 400; 4 has half, 5 a quarter. HOUR 10 to 17: 100 in 5 alone.
        is(23, x.hour(0, 1), 10);
        is(23, x.hour(0, 0), 0);
        x.washing(5, 0, 23);
        x.washing(4, 0, 22);
        // 23: 225 in 5 alone; by day 200 and 100.
        is(23, x.hour(0, 1), 23);
        x.washing(4, 7, 7);
        is(23, x.hour(0, 1), 6);
        // The first GARDEN and the last count as well.
        for (int g = 0; g < 9; g += 8) {
            SmokyHeap v = smoky();
            v.set(4, g);
            v.washing(g, 0, 0);
            is(23, v.hour(0, 9), 1);
            v.washing(g, 0, 22);
            is(23, v.hour(0, 60), 23);
        }
        // It is LIT whatever is against it, and the others burn, too.
        SmokyHeap y = new SmokyHeap();
        y.lay(0, 0, 999, 690);
        law(y, 0, "100");
        law(y, 1, "0");
        y.washing(4, 0, 20);
        is(23, y.hour(0, 1), 21);
        // By minutes beyond the HOUR: of 60 from 20 on none is in 21.
        is(23, y.hour(0, 60), 21);
        y.washing(4, 1, 23);
        is(23, y.hour(0, 60), 0);
        is(23, y.armful(0, 5), 0);
        is(23, y.count(3), 900);
        is(23, y.hour(1, 60), NONE);
        is(23, y.hour(1, 61), BEYOND);
        is(23, y.hour(0, 61), BEYOND);
        is(23, y.hour(0, -1), BEYOND);
        is(23, y.hour(30, 1), BEYOND);
        is(23, y.hour(-1, 1), BEYOND);
    }

    private static void spot() {
        SmokyHeap x = new SmokyHeap();
        is(24, x.spot(5), NONE);
        is(24, x.spot(61), BEYOND);
        is(24, x.spot(-1), BEYOND);
        x.lay(0, 5, 100, 0);
        is(24, x.spot(0), 5);
        x.lay(6, 3, 100, 0);
        is(24, x.spot(0), 3);
        is(24, x.spot(1), 5);
        x.lay(3, 0, 7, 999);
        law(x, 0, "5");
        // The paper has 7 of 30, wet as it is; the ARMFUL burns 5.
        is(24, x.spot(1), 0);
        // In two MINUTES 10 of the ARMFUL burn.
        is(24, x.spot(2), 5);
        is(24, x.heap(1), 0);
        is(24, x.heap(4), 0);
    }

    private static void out() {
        SmokyHeap x = new SmokyHeap();
        is(25, x.out(0), 0);
        is(25, x.out(60), 0);
        x.lay(2, 0, 999, 0);
        x.light(0);
        is(25, x.out(0), NONE);
        // 4 burn, 32 warm more. 100 off: 32 less 3 and 1; WET 99 it stays LIT: only WET above 700 ends it.
        // WET 700 less 1 is not above; 750 is.
        is(25, x.out(1), 750);
        is(25, x.out(61), BEYOND);
        is(25, x.out(-1), BEYOND);
        is(25, x.armful(0, 2), 0);
        is(25, x.armful(0, 4), 100);
        // What is not LIT gets no water, and catches from the warmth.
        SmokyHeap y = new SmokyHeap();
        y.lay(6, 0, 9, 0);
        y.become(0, 2);
        y.light(0);
        y.become(0, 6);
        // 0 burn: 100 less 10 and 1 is 89: LIT; 50 off: 50 less 5 and 1; 100 off: 0: out.
        is(25, y.out(1), 100);
        is(25, y.out(0), NONE);
        SmokyHeap z = new SmokyHeap();
        z.lay(2, 0, 999, 0);
        z.light(0);
        law(z, 0, "998");
        z.minutes(1);
        z.lay(3, 1, 500, 0);
        // STUFF 1 is ASH at once without water or with: the paper is not warm.
        is(25, z.out(1), 0);
        // 950 does just: 790 burnt leave 5777 warm; less 950, and 8: WET 950 less 241. Of 900 less 244.
        SmokyHeap v = new SmokyHeap();
        v.lay(2, 0, 999, 0);
        v.light(0);
        law(v, 0, "790");
        v.minutes(1);
        is(25, v.armful(0, 4), 5777);
        law(v, 0, "1");
        is(25, v.out(1), 950);
        // The paper has caught by the next MINUTE: no water comes on it, as it is not LIT now.
        SmokyHeap u = new SmokyHeap();
        u.lay(2, 0, 500, 0);
        u.lay(3, 1, 50, 61);
        u.light(0);
        law(u, 0, "1");
        u.minutes(1);
        is(25, u.heap(1), 1);
        u.set(3, 61);
        is(25, u.out(1), NONE);
        // One of STUFF 1 gets water, too: a LIVED one of 100 warm.
        SmokyHeap t = new SmokyHeap();
        t.lay(0, 0, 1, 0);
        t.light(0);
        t.become(0, 6);
        is(25, t.out(1), 100);
    }

    private static void catches() {
        SmokyHeap x = new SmokyHeap();
        x.lay(2, 0, 500, 0);
        x.lay(3, 1, 50, 61);
        law(x, 0, "1");
        is(26, x.catches(0, 60), NONE);
        x.light(0);
        is(26, x.catches(0, 0), 0);
        is(26, x.catches(1, 0), NONE);
        // It has 12, 19, 24 when it dries: the third MINUTE takes WET to 60.
        is(26, x.catches(1, 60), 3);
        is(26, x.catches(1, 3), 3);
        is(26, x.catches(1, 2), NONE);
        is(26, x.catches(7, 60), NONE);
        is(26, x.catches(30, 1), BEYOND);
        is(26, x.catches(-1, 1), BEYOND);
        is(26, x.catches(0, 61), BEYOND);
        is(26, x.catches(0, -1), BEYOND);
        is(26, x.catches(29, 61), BEYOND);
        is(26, x.heap(4), 0);
        // One that comes down to the PLACE counts there.
        SmokyHeap y = new SmokyHeap();
        y.lay(6, 0, 1, 0);
        y.lay(3, 0, 1, 0);
        y.lay(0, 0, 99, 0);
        y.light(12);
        is(26, y.catches(6, 5), 2);
        // LIT now, and ASH in the next MINUTE; LIT in the next MINUTE, and not now.
        SmokyHeap z = new SmokyHeap();
        z.lay(3, 0, 1, 0);
        z.light(0);
        is(26, z.catches(0, 1), 0);
        z.lay(2, 4, 99, 0);
        z.lay(3, 5, 99, 0);
        z.light(4);
        is(26, z.catches(5, 1), 1);
        is(26, z.catches(5, 0), NONE);
    }

    private static void reach() {
        SmokyHeap x = new SmokyHeap();
        x.lay(0, 0, 1, 0);
        is(27, x.reach(0), 1);
        x.lay(0, 1, 1, 0);
        x.lay(0, 1, 1, 0);
        x.lay(0, 3, 1, 0);
        x.lay(0, 5, 1, 0);
        is(27, x.reach(0), 3);
        is(27, x.reach(7), 3);
        is(27, x.reach(3), 1);
        // The end of one row does not hang together with the next row's beginning.
        is(27, x.reach(5), 1);
        pile(x, 0, 0, 1);
        is(27, x.reach(5), 1);
        is(27, x.reach(6), 4);
        x.lay(0, 2, 1, 0);
        is(27, x.reach(3), 6);
        x.lay(0, 4, 1, 0);
        is(27, x.reach(5), 8);
        for (int c = 0; c < 6; c++) pile(x, 0, c, 5);
        is(27, x.reach(29), 30);
        SmokyHeap y = new SmokyHeap();
        pile(y, 0, 5, 5);
        pile(y, 0, 3, 1);
        is(27, y.reach(29), 5);
        is(27, y.reach(5), 5);
        pile(y, 0, 4, 1);
        is(27, y.reach(4), 7);
        pile(y, 0, 0, 2);
        is(27, y.reach(6), 2);
        is(27, y.reach(0), 2);
        is(27, new SmokyHeap().reach(0), NONE);
        is(27, x.reach(30), BEYOND);
        is(27, x.reach(-1), BEYOND);
    }

    private static void reports() {
        SmokyHeap x = new SmokyHeap();
        is(30, x.liar(), NONE);
        is(28, x.report(9, 0), BEYOND);
        is(28, x.report(-1, 0), BEYOND);
        is(28, x.report(0, 4), BEYOND);
        is(28, x.report(0, -1), BEYOND);
        is(29, x.suspects(), 511);
        // Smoke that goes east comes to 5 from 3, 4, 5.
        is(28, x.report(5, 0), 0);
        is(29, x.suspects(), 0b111000);
        is(30, x.liar(), 0);
        // North, to 4: from 1, 4.
        is(28, x.report(4, 1), 1);
        is(29, x.suspects(), 0b10000);
        // Without 0: 1, 4; without 1: 3, 4, 5.
        is(30, x.liar(), 1);
        // South, to 8: from 8 alone.
        is(28, x.report(8, 3), 2);
        is(29, x.suspects(), 0);
        is(30, x.liar(), 2);
        for (int k = 3; k < 12; k++) is(28, x.report(4, 1), k);
        is(28, x.report(4, 1), FULL);
        is(28, x.report(9, 1), BEYOND);
        is(28, x.count(2), 12);
        // Of like ones the least: without 0 there is 1, without 1 there is 4, without 2 none.
        SmokyHeap z = new SmokyHeap();
        z.report(4, 0);
        z.report(1, 0);
        z.report(4, 1);
        is(30, z.liar(), 0);
        // Without the second 4 and 5 are left, without another one 4 alone.
        SmokyHeap v = new SmokyHeap();
        v.report(3, 2);
        v.report(4, 1);
        v.report(4, 2);
        is(29, v.suspects(), 0b10000);
        is(30, v.liar(), 1);
        int[][] from = {{0b1, 0b11, 0b111, 0b1000, 0b11000, 0b111000, 1 << 6, 3 << 6, 7 << 6},
            {1, 2, 4, 011, 022, 044, 0111, 0222, 0444}, {7, 6, 4, 070, 060, 040, 0700, 0600, 0400},
            {0111, 0222, 0444, 0110, 0220, 0440, 0100, 0200, 0400}};
        for (int way = 0; way < 4; way++) {
            for (int g = 0; g < 9; g++) {
                SmokyHeap y = new SmokyHeap();
                is(28, y.report(g, way), 0);
                is(29, y.suspects(), from[way][g]);
            }
        }
    }

    private static void voice() {
        SmokyHeap x = new SmokyHeap();
        x.lay(0, 0, 50, 0);
        for (int k = 1; k < 7; k++) x.lay(k, k % 6, 50, 0);
        // PLACE p has KIND p; STUFF 50; x is 9.
        int[][] due = {
            {59, 118, 118, 0},
            {52, 104, 103, 0 + 88},
            {59, 118, 116 ^ 50, 0},
            {47, -94, -97, 0 - 86},
            {59, 118, 116 ^ 50, 0 - (98 ^ 50)},
            {59, 123, 118, 0},
            {3, 12, 30, 0}};
        due[4][2] = 120 - 4 ^ 50;
        due[1][3] = 2 * 44;
        due[4][3] = -(2 * 51 - 4 ^ 50);
        due[3][3] = -2 * 43;
        for (int p = 0; p < 7; p++) for (int v = 0; v < 4; v++) is(31, x.voice(p, v, 9), due[p][v]);
        is(31, x.voice(0, 3, 149), 2);
        is(31, x.voice(0, 3, -149), -2);
        is(31, x.voice(0, 0, MAX), MIN + 49);
        is(31, x.voice(0, 4, 1), BEYOND);
        is(31, x.voice(0, -1, 1), BEYOND);
        is(31, x.voice(30, 0, 1), BEYOND);
        is(31, x.voice(29, 4, 1), BEYOND);
        is(31, x.voice(29, 0, 1), NONE);
        // An answer that looks like an ERROR is none.
        is(31, x.voice(0, 0, -1000052), NONE);
        is(31, x.told(2), 1);
        parted();
        traces();
    }

    private static void parted() {
        SmokyHeap x = new SmokyHeap();
        x.lay(4, 5, 5, 0);
        x.lay(0, 4, 3, 0);
        is(31, x.voice(5, 2, 0), (12 - 5) ^ 5);
        is(32, x.count(6), 5);
        is(31, x.voice(5, 3, 7), PARTED);
        is(31, x.told(6), 1);
        // THE TRACE is that of the one that PARTED, too; nothing begins behind 13.
        is(32, x.count(6), 2);
        is(32, x.body(0), 51);
        is(32, x.body(1), 13);
        is(32, x.body(2), NONE);
        // An ERROR of which no BODY began leaves it.
        is(31, x.voice(29, 3, 7), NONE);
        is(31, x.voice(30, 3, 7), BEYOND);
        is(31, x.voice(5, 4, 7), BEYOND);
        is(32, x.count(6), 2);
        is(32, x.body(0), 51);
        is(31, x.voice(4, 3, MIN), MIN);
        is(31, x.voice(4, 3, 7), -7);
        is(32, x.count(6), 1);
        is(32, x.body(0), 13);
    }

    private static void partedTrace(int kind, int... bodies) {
        SmokyHeap x = new SmokyHeap();
        x.lay(kind, 2, 2, 0);
        is(31, x.voice(2, 3, 0), PARTED);
        is(31, x.told(6), 1);
        is(32, x.count(6), bodies.length);
        for (int k = 0; k < bodies.length; k++) is(32, x.body(k), bodies[k]);
        is(32, x.body(bodies.length), NONE);
        // An IMAGE does not keep THE TRACE, that of one that PARTED neither.
        x.image();
        x.voice(2, 0, 0);
        int many = x.count(6);
        x.restore();
        is(32, x.count(6), many);
        // What PARTED is forgotten by the next voice().
        is(31, x.voice(2, 3, 5), PARTED);
        x.become(2, 0);
        is(31, x.voice(2, 1, 5), 14);
        is(32, x.count(6), 2);
        is(32, x.body(0), 11);
        is(32, x.body(1), 10);
    }

    private static void trace(int kind, int voice, int... bodies) {
        SmokyHeap x = new SmokyHeap();
        x.lay(kind, 0, 50, 0);
        x.voice(0, voice, 9);
        is(32, x.count(6), bodies.length);
        for (int k = 0; k < bodies.length; k++) is(32, x.body(k), bodies[k]);
        is(32, x.body(bodies.length), NONE);
        is(32, x.body(-1), NONE);
        is(32, x.body(MAX), NONE);
    }

    private static void traces() {
        trace(0, 0, 10);
        trace(0, 1, 11, 10);
        trace(0, 2, 12, 11, 10);
        trace(0, 3, 13);
        trace(1, 0, 20, 10);
        trace(1, 2, 12, 11, 20, 10);
        trace(1, 3, 21, 13, 11, 20, 10);
        trace(2, 2, 30, 12, 11, 10);
        trace(3, 0, 40, 20, 10);
        trace(3, 1, 41, 11, 40, 20, 10);
        trace(3, 3, 21, 13, 41, 11, 40, 20, 10);
        trace(4, 2, 50, 30, 12, 11, 10);
        trace(4, 3, 51, 13, 50, 30, 12, 11, 10);
        trace(5, 1, 60, 11, 10);
        trace(5, 2, 12, 60, 11, 10);
        trace(6, 0, 70);
        trace(6, 2, 71, 12, 60, 11, 70);
        trace(6, 3, 13);
        partedTrace(0, 13);
        partedTrace(1, 21, 13);
        partedTrace(2, 13);
        partedTrace(3, 21, 13);
        partedTrace(4, 51, 13);
        partedTrace(5, 13);
        partedTrace(6, 13);
    }

    private static void sheet() {
        SmokyHeap x = new SmokyHeap();
        int[] bits = {8, 16, 32};
        for (int b : bits) {
            is(33, x.sheet(0, b, 24), 1);
            is(33, x.put(0, 23, 1), 1);
            is(33, x.put(0, 24, 1), BEYOND);
            is(33, x.sheet(0, b, 25), BEYOND);
            is(33, x.sheet(0, b, -1), STATE);
            is(33, x.sheet(0, b, MIN), STATE);
            is(33, x.put(0, 23, 1), 1);
            is(33, x.sheet(0, b, 0), 1);
            is(33, x.put(0, 0, 1), BEYOND);
        }
        is(33, x.sheet(4, 8, -1), BEYOND);
        is(33, x.sheet(-1, 8, 1), BEYOND);
        is(33, x.sheet(0, 9, -1), BEYOND);
        is(33, x.sheet(0, 64, 1), BEYOND);
        is(33, x.sheet(0, -8, 1), BEYOND);
        is(33, x.sheet(0, 0, -1), 1);
        is(33, x.put(0, 0, 1), NONE);
        is(33, x.sheet(0, 0, MAX), 1);
        is(33, x.sheet(4, 0, 1), BEYOND);
        // All 0 again: KIND 0, column 0, STUFF 0, which lay() refuses.
        x.sheet(1, 32, 4);
        x.put(1, 2, 5);
        is(33, x.armfuls(1), 1);
        x.sheet(1, 32, 4);
        is(33, x.armfuls(1), 0);
        x.put(1, 0, 7);
        x.sheet(1, 32, 4);
        x.put(1, 2, 5);
        is(33, x.armfuls(1), 1);
    }

    private static void put() {
        SmokyHeap x = new SmokyHeap();
        is(34, x.put(0, -1, 0), NONE);
        is(34, x.put(4, 0, 0), BEYOND);
        is(34, x.put(-1, 0, 0), BEYOND);
        x.sheet(0, 8, 4);
        is(34, x.put(0, 4, 0), BEYOND);
        is(34, x.put(0, -1, 0), BEYOND);
        is(34, x.put(0, MAX, 0), BEYOND);
        // The lowest bits: 256 and 3 is 3 in 8 of them, 65536 and 300 is 300 in 16.
        int[] eight = {259, 256, -252, 1029};
        for (int k = 0; k < 4; k++) is(34, x.put(0, k, eight[k]), 1);
        is(34, x.armfuls(0), 1);
        int[] laid = {3, 4, 5};
        for (int k = 0; k < 3; k++) is(34, x.armful(0, k), laid[k]);
        x.sheet(1, 16, 4);
        int[] sixteen = {65536, 65537, 65836, -65535};
        for (int k = 0; k < 4; k++) x.put(1, k, sixteen[k]);
        is(34, x.armfuls(1), 1);
        int[] then = {0, 300, 1};
        for (int k = 0; k < 3; k++) is(34, x.armful(1, k), then[k]);
        // In 32 they are all there, and lay() refuses them.
        x.sheet(2, 32, 4);
        for (int k = 0; k < 4; k++) x.put(2, k, sixteen[k]);
        is(34, x.armfuls(2), 0);
    }

    private static void move() {
        SmokyHeap x = new SmokyHeap();
        x.sheet(0, 16, 8);
        x.sheet(1, 16, 4);
        x.sheet(2, 32, 4);
        is(35, x.move(4, 0, 3, 0, 1), BEYOND);
        is(35, x.move(0, 0, 4, 0, 1), BEYOND);
        is(35, x.move(-1, 0, 0, 0, 1), BEYOND);
        is(35, x.move(0, -1, 3, 0, 1), NONE);
        is(35, x.move(3, 0, 0, 0, 1), NONE);
        is(35, x.move(0, -1, 2, 0, 1), KIND);
        is(35, x.move(0, -1, 1, 0, 1), BEYOND);
        is(35, x.move(0, 0, 1, -1, 1), BEYOND);
        is(35, x.move(0, 0, 1, 0, -1), BEYOND);
        is(35, x.move(0, 0, 1, 0, 5), BEYOND);
        is(35, x.move(0, 5, 1, 0, 4), BEYOND);
        is(35, x.move(0, 4, 1, 1, 4), BEYOND);
        is(35, x.move(0, MAX, 1, 0, MAX), BEYOND);
        is(35, x.move(0, 1, 1, 0, MAX), BEYOND);
        is(35, x.move(0, 8, 1, 4, 0), 0);
        int[] v = {1, 2, 3, 4, 5, 6, 7, 8};
        for (int k = 0; k < 8; k++) x.put(0, k, v[k]);
        is(35, x.move(0, 4, 1, 0, 4), 4);
        // KIND 5, column 6: not laid; from 3 on it is 4, 5, 6, 7.
        is(35, x.armfuls(1), 0);
        is(35, x.move(0, 3, 1, 0, 4), 4);
        is(35, x.armfuls(1), 1);
        is(35, x.armful(5, 0), 4);
        is(35, x.armful(5, 1), 6);
        is(35, x.armful(5, 2), 7);
        // As they all were, up and down in the same SHEET: 1, 1, 2, 3 and 4, 5, 6, 7.
        SmokyHeap y = new SmokyHeap();
        y.sheet(0, 8, 8);
        for (int k = 0; k < 8; k++) y.put(0, k, v[k]);
        y.move(0, 0, 0, 1, 7);
        is(35, y.armfuls(0), 2);
        is(35, y.armful(1, 1), 2);
        is(35, y.armful(1, 2), 3);
        is(35, y.armful(5, 1), 6);
        is(35, y.move(0, 1, 0, 0, 7), 7);
        // 1, 2, 3, 4 and 5, 6: the second is refused.
        is(35, y.armfuls(0), 1);
        is(35, y.armful(2, 1), 3);
        is(35, y.armful(2, 2), 4);
    }

    private static void armfuls() {
        SmokyHeap x = new SmokyHeap();
        is(36, x.armfuls(-1), BEYOND);
        is(36, x.armfuls(4), BEYOND);
        is(36, x.armfuls(3), NONE);
        x.sheet(3, 32, 24);
        for (int k = 0; k < 6; k++) x.put(3, 4 * k + 2, 10 + k);
        // Six for a column of five: the sixth is refused, and no ERROR counts it.
        is(36, x.armfuls(3), 5);
        is(36, x.told(4), 0);
        is(36, x.armful(24, 1), 14);
        is(36, x.armfuls(3), 0);
        is(36, x.told(4), 0);
        // What comes behind a refused one does not come.
        for (int k = 0; k < 6; k++) x.put(3, 4 * k + 1, k);
        x.put(3, 4, 7);
        x.put(3, 1, 5);
        is(36, x.armfuls(3), 1);
        is(36, x.armful(5, 1), 10);
        is(36, x.count(0), 6);
        is(36, x.told(1), 2);
        x.sheet(3, 8, 3);
        is(36, x.armfuls(3), 0);
        x.sheet(3, 8, 0);
        is(36, x.armfuls(3), 0);
    }

    private static void image() {
        SmokyHeap x = new SmokyHeap();
        is(38, x.restore(), NONE);
        x.lay(1, 0, 50, 10);
        x.light(0);
        x.washing(4, 0, 23);
        x.report(4, 2);
        law(x, 0, "7");
        law(x, 1, "0");
        x.feed('5', 1);
        x.tell(1);
        x.seed(99);
        x.set(4, 3);
        x.minutes(2);
        x.sheet(0, 8, 4);
        is(37, x.image(), 1);
        int burnt = x.heap(4);
        int smelt = x.garden(4, 0);
        x.take(0);
        x.lay(0, 3, 7, 7);
        x.minutes(9);
        x.gusts(2);
        x.washing(4, 5, 4);
        x.report(0, 0);
        x.untell(0);
        x.untell(1);
        x.feed('6', 1);
        x.tell(2);
        x.set(4, 1);
        x.sheet(0, 16, 2);
        x.voice(3, 1, 1);
        x.take(29);
        is(38, x.restore(), 2);
        is(38, x.heap(3), 0);
        is(38, x.suspects(), 0b110000);
        is(38, x.armful(0, 0), 1);
        is(38, x.armful(0, 5), 1);
        is(38, x.armful(3, 0), NONE);
        is(38, x.heap(4), burnt);
        is(38, x.garden(4, 0), smelt);
        is(38, x.garden(4, 2), 0xffffff);
        int[] counts = {1, 2, 1, 902, 1, 1, 2, 99};
        for (int k = 0; k < 8; k++) is(38, x.count(k), counts[k]);
        is(38, x.may(), 0);
        is(38, x.untell(0), 1);
        is(38, x.set(4, 8), 3);
        is(38, x.check(0), 0);
        // THE TRACE, the SHEETS and what is told are not of the IMAGE.
        is(38, x.body(0), 11);
        is(38, x.put(0, 1, 1), 1);
        is(38, x.put(0, 2, 1), BEYOND);
        is(38, x.told(2), 3);
        // The IMAGE stays as it was, whatever came behind it.
        x.lay(0, 0, 1, 1);
        is(38, x.restore(), 2);
        is(38, x.count(0), 1);
        is(38, x.set(4, 8), 3);
        is(38, x.untell(0), 1);
        x.minutes(5);
        is(37, x.image(), 2);
        x.minutes(5);
        is(38, x.restore(), 7);
        // REPORTS, ASHES and what waits come back with their numbers.
        x.lay(3, 5, 1, 0);
        x.untell(1);
        x.light(5);
        x.minutes(1);
        // The DRY one of before is ASH, too, by now.
        is(38, x.heap(3), 2);
        x.report(8, 1);
        is(37, x.image(), 3);
        x.lay(3, 5, 1, 0);
        x.light(5);
        x.minutes(1);
        is(38, x.heap(3), 3);
        is(38, x.restore(), 8);
        is(38, x.heap(3), 2);
        is(38, x.suspects(), 0b100000);
        is(37, x.image(), 4);
    }

    private static void tell() {
        SmokyHeap x = new SmokyHeap();
        for (int k = 1; k < 25; k++) is(39, x.tell(k % 2 == 0 ? MIN : MAX), k);
        is(39, x.tell(0), FULL);
        is(39, x.count(5), 24);
        is(39, x.told(4), 1);
    }

    private static void check() {
        SmokyHeap x = new SmokyHeap();
        for (int k = 0; k < 5; k++) x.lay(k, 2, 1, 0);
        for (int k = 0; k < 5; k++) x.tell(k);
        is(40, x.check(2), 0);
        is(40, x.count(5), 0);
        is(40, x.check(2), 1);
        is(40, x.check(1), 0);
        is(40, x.check(5), 0);
        x.tell(3);
        for (int k = 1; k < 5; k++) x.tell(k);
        is(40, x.check(2), 1);
        for (int k = 0; k < 5; k++) x.tell(k == 3 ? 9 : k);
        is(40, x.check(2), 4);
        for (int k = 0; k < 4; k++) x.tell(k);
        is(40, x.check(2), 5);
        for (int k = 0; k < 24; k++) x.tell(k);
        is(40, x.check(2), 6);
        x.tell(0);
        is(40, x.check(6), BEYOND);
        is(40, x.count(5), 0);
        x.tell(0);
        is(40, x.check(-1), BEYOND);
        is(40, x.count(5), 0);
        x.tell(0);
        is(40, x.check(0), 1);
    }

    private static void count() {
        SmokyHeap x = new SmokyHeap();
        is(41, x.count(8), BEYOND);
        is(41, x.count(-1), BEYOND);
        x.lay(0, 0, 9, 9);
        x.lay(0, 3, 9, 9);
        x.minutes(7);
        x.report(0, 0);
        x.feed(0, 3);
        x.tell(1);
        x.tell(1);
        x.voice(0, 2, 1);
        x.seed(-1000001);
        int[] all = {2, 7, 1, 907, 3, 2, 3, -1000001};
        for (int k = 0; k < 8; k++) is(41, x.count(k), all[k]);
        is(41, x.told(1), 2);
    }

    private static void told() {
        SmokyHeap x = new SmokyHeap();
        is(42, x.told(0), BEYOND);
        is(42, x.told(7), BEYOND);
        is(42, x.told(-1), BEYOND);
        is(42, x.told(1), 3);
        is(42, x.told(MIN), BEYOND);
        is(42, x.told(1), 4);
        x.take(0);
        x.sheet(0, 8, -1);
        for (int k = 0; k < 25; k++) x.tell(0);
        x.lay(0, 3, 3, 0);
        x.as(3, 1);
        x.voice(3, 3, 1);
        int[] all = {4, 1, 1, 1, 1, 1};
        for (int k = 1; k < 7; k++) is(42, x.told(k), all[k - 1]);
        // A FAULT is no ERROR.
        x.text(0);
        for (int k = 1; k < 7; k++) is(42, x.told(k), all[k - 1]);
    }

    public static void main(String[] args) {
        newObject();
        lay();
        take();
        armful();
        as();
        become();
        light();
        fork();
        pour();
        set();
        feed();
        text();
        untell();
        minutes();
        gusts();
        seed();
        washing();
        garden();
        heap();
        may();
        then();
        gardenThen();
        hour();
        spot();
        out();
        catches();
        reach();
        reports();
        voice();
        sheet();
        put();
        move();
        armfuls();
        image();
        tell();
        check();
        count();
        told();
        end();
    }
}
