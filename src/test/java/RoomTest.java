import java.lang.management.ManagementFactory;
import java.lang.reflect.Array;
import java.lang.reflect.Field;
import java.lang.reflect.Modifier;
import java.util.IdentityHashMap;
import java.util.Map;

/** The room: what one object holds is small, and no call makes anything more. */
public final class RoomTest {
    private static final int OBJECTS_MOST = 120;
    private static final int ELEMENTS_MOST = 2500;
    private static final long BYTES_MOST = 20000;
    private static long sum = 0;

    private static void calls(SmokyHeap x, int round) {
        long word = 0x29332b64282b7764L;
        for (int v = -2; v < 32; v++) {
            sum += x.lay(v % 7, v % 6, 40 + v, v) + x.light(v) + x.armful(v, v % 9) + x.as(v, v % 7) + x.become(v, v % 7);
            sum += x.fork(v, v % 10) + x.pour(v, v) + x.set(v % 5, v % 4) + x.garden(v, v % 3) + x.heap(v) + x.reach(v);
            sum += x.voice(v, v % 4, round) + x.body(v) + x.count(v) + x.told(v) + x.catches(v, 20) + x.tell(v);
            sum += x.washing(v, 0, v) + x.report(v, v % 4) + x.put(v, v, v) + x.check(v);
            sum += x.then(v, 4) + x.gardenThen(v, 4, 0) + x.hour(v, 20);
            if (v % 9 == 0) sum += x.take(v);
        }
        for (int use = -1; use < 4; use++) {
            sum += x.feed(word, 8) + x.text(use) + x.feed(word, 3) + x.text(use) + x.may() + x.untell(use);
        }
        sum += x.minutes(3) + x.gusts(3) + x.seed(round) + x.spot(20) + x.out(20) + x.suspects() + x.liar();
        for (int s = -1; s < 5; s++) {
            sum += x.sheet(s, 16, 24) + x.put(s, 2, 9) + x.move(s, 0, s, 1, 20) + x.armfuls(s) + x.sheet(s, 8, -1);
        }
        sum += x.image() + x.restore();
    }

    private static void count(Object o, Map<Object, Integer> seen) throws IllegalAccessException {
        if (o == null || seen.containsKey(o) || o instanceof String) return;
        if (o.getClass().isArray()) {
            int n = Array.getLength(o);
            seen.put(o, n);
            if (!o.getClass().getComponentType().isPrimitive()) for (int k = 0; k < n; k++) count(Array.get(o, k), seen);
            return;
        }
        int fields = 0;
        seen.put(o, 0);
        for (Field f : o.getClass().getDeclaredFields()) {
            if (Modifier.isStatic(f.getModifiers())) continue;
            fields++;
            f.setAccessible(true);
            if (!f.getType().isPrimitive()) count(f.get(o), seen);
        }
        seen.put(o, fields);
    }

    public static void main(String[] args) throws IllegalAccessException {
        boolean good = true;
        Map<Object, Integer> seen = new IdentityHashMap<>();
        count(new SmokyHeap(), seen);
        int elements = 0;
        for (int n : seen.values()) elements += n;
        System.out.println("an object holds " + seen.size() + " objects and arrays, " + elements + " fields and elements");
        if (seen.size() > OBJECTS_MOST || elements > ELEMENTS_MOST) good = false;
        com.sun.management.ThreadMXBean threads = (com.sun.management.ThreadMXBean) ManagementFactory.getThreadMXBean();
        SmokyHeap x = new SmokyHeap();
        calls(x, 0);
        long id = Thread.currentThread().getId();
        long before = threads.getThreadAllocatedBytes(id);
        for (int round = 1; round < 60; round++) calls(x, round);
        long made = threads.getThreadAllocatedBytes(id) - before;
        System.out.println("some 50000 calls made " + made + " bytes");
        if (made > BYTES_MOST) good = false;
        System.out.println(good ? "the room is kept" : "the room is NOT kept (sum " + sum + ")");
        if (!good) System.exit(1);
    }
}
