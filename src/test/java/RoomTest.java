import java.lang.management.ManagementFactory;
import java.lang.reflect.Array;
import java.lang.reflect.Field;
import java.lang.reflect.Modifier;
import java.util.IdentityHashMap;
import java.util.Map;

/** All calls of a run live in one room: an object must be small, and calls must make nothing. */
final class RoomTest {
    private static final int MOST_OBJECTS = 300;
    private static final int MOST_PARTS = 6000;
    private static final int CALLS = 512;

    private int parts = 0;
    private final Map<Object, Boolean> seen = new IdentityHashMap<>();

    public static void main(String[] args) throws Exception {
        RoomTest room = new RoomTest();
        room.walk(new ElderTurn());
        System.out.println("a new object: " + room.seen.size() + " objects, " + room.parts + " fields and elements");
        boolean isSmall = room.seen.size() <= MOST_OBJECTS && room.parts <= MOST_PARTS;
        long bytes = bytesOfCalls();
        System.out.println(CALLS + " rounds of calls: " + bytes + " bytes");
        if (!isSmall || bytes > 8 * CALLS) {
            System.out.println("that is too much");
            System.exit(1);
        }
    }

    private void walk(Object o) throws IllegalAccessException {
        if (o == null || seen.put(o, true) != null) {
            return;
        }
        if (o.getClass().isArray()) {
            parts += Array.getLength(o);
            if (!o.getClass().getComponentType().isPrimitive()) {
                for (Object part : (Object[]) o) {
                    walk(part);
                }
            }
            return;
        }
        for (Field f : o.getClass().getDeclaredFields()) {
            if (!Modifier.isStatic(f.getModifiers())) {
                parts++;
                f.setAccessible(true);
                if (!f.getType().isPrimitive()) {
                    walk(f.get(o));
                }
            }
        }
    }

    private static long bytesOfCalls() {
        var threads = (com.sun.management.ThreadMXBean) ManagementFactory.getThreadMXBean();
        ElderTurn x = new ElderTurn();
        String text = "family years 9 law vote fare 3;person a twin branch left age 3 strong 2 weighs 2 frail 1"
                + ";person b keen branch right age 3 strong 9 weighs 2 frail 1;plan a 0 to 4 harm 3;secret s a"
                + ";hides a s b;diary 0 a;person c cousin branch left born 2 strong 9 weighs 2 frail 1";
        int[][] five = new int[text.length() / 20 + 1][];
        for (int i = 0; i < five.length; i++) {
            five[i] = Texts.numbers(text.getBytes(), 20 * i);
        }
        for (int i = 0; i < 3; i++) {
            calls(x, five, text.length());
        }
        long before = threads.getThreadAllocatedBytes(Thread.currentThread().getId());
        for (int i = 0; i < CALLS; i++) {
            calls(x, five, text.length());
        }
        // What the question itself makes is taken off.
        long then = threads.getThreadAllocatedBytes(Thread.currentThread().getId());
        long asked = threads.getThreadAllocatedBytes(Thread.currentThread().getId()) - then;
        return then - before - asked;
    }

    private static void calls(ElderTurn x, int[][] five, int n) {
        for (int[] f : five) {
            x.feed(f[0], f[1], f[2], f[3], f[4]);
        }
        x.family(n);
        x.knows(1, 3);
        x.kept(0, 3);
        x.bestLaw(2);
        x.rowAt(4, 1);
        x.chain(0, 1);
        x.bestTrade();
        x.fits();
        x.seeds(20);
        x.power(0);
        x.stands(8, true);
        x.mean(0, 65530, 20);
        x.buy(1, 0, 1, 3);
        x.mark();
        x.death(0, 2);
        x.law(3);
        x.seed(4);
        x.undo();
        x.back(0);
        x.family(5);
        x.size(3);
        x.fair();
    }
}
