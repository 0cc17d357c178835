import java.lang.reflect.Field;

/**
 * BURNT, SMOKE, SMELT and BOTHERED are held at 1999999999. The smoke of 512 calls comes nowhere near that, so this test
 * alone puts the sums there by itself, inside of the object, and then asks as any other does.
 */
public final class HeldSumsTest extends Ask {
    private static final int MOST = 1999999999;

    private static Object part(Object whole, String name) throws ReflectiveOperationException {
        Field field = whole.getClass().getDeclaredField(name);
        field.setAccessible(true);
        return field.get(whole);
    }

    private static void put(Object whole, String name, int v) throws ReflectiveOperationException {
        Field field = whole.getClass().getDeclaredField(name);
        field.setAccessible(true);
        field.setInt(whole, v);
    }

    /** In the next MINUTE 100 burn, 1000 of smoke come, 200 to GARDEN 4; what is missing of the most is told. */
    private static SmokyHeap nearly(int burnt, int smoke, int smelt, int bothered) throws ReflectiveOperationException {
        SmokyHeap x = new SmokyHeap();
        x.set(3, 190);
        x.lay(0, 0, 999, 190);
        x.light(0);
        law(x, 0, "100");
        x.washing(4, 0, 22);
        Object heap = part(part(x, "now"), "heap");
        put(heap, "burnt", MOST - burnt);
        put(heap, "smoke", MOST - smoke);
        ((int[]) part(heap, "smelts"))[4] = MOST - smelt;
        ((int[]) part(heap, "bothereds"))[4] = MOST - bothered;
        return x;
    }

    private static void all(SmokyHeap x, int burnt, int smoke, int smelt, int bothered) {
        is("21 then, of BURNT", x.then(1, 4), burnt);
        is("21 then, of SMOKE", x.then(1, 5), smoke);
        is("22 gardenThen, of SMELT", x.gardenThen(1, 4, 0), smelt);
        is("22 gardenThen, of BOTHERED", x.gardenThen(1, 4, 1), bothered);
        x.minutes(1);
        is("19 heap: BURNT", x.heap(4), burnt);
        is("19 heap: SMOKE", x.heap(5), smoke);
        is("18 garden: SMELT", x.garden(4, 0), smelt);
        is("18 garden: BOTHERED", x.garden(4, 1), bothered);
    }

    public static void main(String[] args) throws ReflectiveOperationException {
        all(nearly(101, 1001, 201, 201), MOST - 1, MOST - 1, MOST - 1, MOST - 1);
        all(nearly(100, 1000, 200, 200), MOST, MOST, MOST, MOST);
        all(nearly(99, 999, 199, 199), MOST, MOST, MOST, MOST);
        all(nearly(0, 0, 0, 0), MOST, MOST, MOST, MOST);
        // HOUR 23 alone has no WASHING; but where BOTHERED is held, it is more in no HOUR.
        is("23 hour: BOTHERED is more", nearly(0, 0, 0, 1).hour(0, 1), 23);
        is("23 hour: BOTHERED is held", nearly(0, 0, 0, 0).hour(0, 1), 0);
        // What all GARDENS have together may be more than an int holds; what is BOTHERED more is not.
        SmokyHeap x = nearly(0, 0, 0, MOST - 1073741819);
        is("23 hour: BOTHERED of one GARDEN", x.hour(0, 1), 23);
        ((int[]) part(part(part(x, "now"), "heap"), "bothereds"))[8] = 1073741819;
        is("23 hour: BOTHERED of all GARDENS together", x.hour(0, 1), 23);
        end();
    }
}
