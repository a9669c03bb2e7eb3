import java.lang.management.ManagementFactory;
import java.lang.reflect.Array;
import java.lang.reflect.Field;
import java.lang.reflect.Modifier;
import java.util.ArrayDeque;
import java.util.IdentityHashMap;

/** How much of the one room an object takes: little when it is made, and nothing by any call. */
public final class RoomTest {
    private static final int OBJECTS_MOST = 300;
    private static final int PARTS_MOST = 5000;
    private static final int ROUNDS = 12;
    private static final long BYTES_MOST = 4096;

    public static void main(String[] args) throws Exception {
        Due due = new Due("RoomTest");
        LoafFall x = new LoafFall();
        int[] taken = roomOf(x);
        System.out.println("RoomTest: " + taken[0] + " objects, " + taken[1] + " fields and elements");
        due.is("few objects", taken[0] <= OBJECTS_MOST, true);
        due.is("few fields and elements", taken[1] <= PARTS_MOST, true);
        long least = Long.MAX_VALUE;
        for (int round = 0; round < ROUNDS; round++) {
            x = new LoafFall();
            long before = allocated();
            callAll(x);
            least = Math.min(least, allocated() - before);
        }
        System.out.println("RoomTest: " + least + " bytes made by a run of all calls");
        due.is("calls make nothing", least <= BYTES_MOST, true);
        due.end();
    }

    private static long allocated() {
        com.sun.management.ThreadMXBean threads =
                (com.sun.management.ThreadMXBean) ManagementFactory.getThreadMXBean();
        return threads.getCurrentThreadAllocatedBytes();
    }

    private static void write(LoafFall x, int t, String s) {
        x.text(t, s.length());
        for (int i = 0; i < s.length(); i++) {
            x.put(t, i, s.charAt(i));
        }
    }

    private static void callAll(LoafFall x) {
        write(x, 0, "y4 s30 t2");
        write(x, 1, "k r3:8 x r3:4 o9:10 d r2:3");
        for (int k = 0; k < 4; k++) {
            x.fault(0, false);
            x.flour(k, 0);
            x.doing(k, 1);
            x.about(k, 0);
            x.step(k, 1);
            x.slip(k, 150);
        }
        x.loaf(0, 0);
        for (int n = 0; n < 30; n++) {
            x.go(1);
            x.keep(n % 3);
            x.height();
            x.holes();
            x.cut(n % 6);
        }
        x.on(1);
        x.rests(3);
        x.why(0);
        x.odds(0, 1);
        x.sprout(0, 0, 0);
        x.rack(0, 0, 0);
        x.change();
        x.changes();
        x.wide(1);
        x.flours(0);
        x.begin(2);
        x.oven(-1);
        x.even();
        x.told(0, 0);
        x.law(0);
        x.spans(0, 20, 0, true);
        x.foretell(0, 0);
        x.row(0, 40);
        x.lay(0, 3, 4);
        x.copy(0, 0, 0, 1, 30);
        x.mean(0);
        x.tear(0);
        x.at(0, 0);
        x.mark(0, 1);
        x.fall(0, 1);
        x.cell(0, 1);
        x.count(4);
        x.digest();
    }

    /** Objects, and their fields and elements, that hang on one. */
    private static int[] roomOf(Object first) throws Exception {
        IdentityHashMap<Object, Boolean> seen = new IdentityHashMap<>();
        ArrayDeque<Object> open = new ArrayDeque<>();
        open.add(first);
        seen.put(first, true);
        int parts = 0;
        while (!open.isEmpty()) {
            Object o = open.remove();
            if (o.getClass().isArray()) {
                parts += Array.getLength(o);
                for (int i = 0; o instanceof Object[] all && i < all.length; i++) {
                    await(all[i], seen, open);
                }
                continue;
            }
            for (Field f : o.getClass().getDeclaredFields()) {
                if (Modifier.isStatic(f.getModifiers())) {
                    continue;
                }
                parts++;
                if (!f.getType().isPrimitive()) {
                    f.setAccessible(true);
                    await(f.get(o), seen, open);
                }
            }
        }
        return new int[] {seen.size(), parts};
    }

    private static void await(Object o, IdentityHashMap<Object, Boolean> seen, ArrayDeque<Object> open) {
        if (o != null && seen.put(o, true) == null) {
            open.add(o);
        }
    }
}
