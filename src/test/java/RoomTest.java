import java.lang.management.ManagementFactory;
import java.lang.reflect.Array;
import java.lang.reflect.Field;
import java.lang.reflect.Modifier;
import java.util.ArrayDeque;
import java.util.IdentityHashMap;
import java.util.Map;

/**
 * The room that all calls of a run share: 600,000 objects and 7.3 million fields and elements. The
 * dearest call is the constructor, so 512 full desks must fit; the other calls make next to nothing.
 */
public final class RoomTest {
    private static final int CALLS = 512;

    public static void main(String[] args) throws IllegalAccessException {
        Desk desk = new Desk();
        String[] headings = {"a b c d e f g", "h b c d e f g", "i b c d e f g", "j b c d e f g"};
        for (String heading : headings) {
            desk.table(heading);
        }
        long[] room = roomOf(desk.raw());
        Check.same("few enough objects: " + room[0], room[0] * CALLS < 600_000, true);
        Check.same("few enough fields and elements: " + room[1], room[1] * CALLS < 7_300_000, true);
        for (int i = 0; i < 16; i++) {
            desk.record(0, i + ";b;c;d;e;f");
        }
        String template = "{each a}{each a b=b}{each a}{let x=min(1,b)+len('abc')}{x:2>9}{end}{end}{end}";
        Check.same("compile", desk.compile(template), 0);
        steady(desk.raw());
        Check.end();
    }

    /** Objects with arrays, and fields with elements, that an object reaches. */
    private static long[] roomOf(Object root) throws IllegalAccessException {
        Map<Object, Boolean> seen = new IdentityHashMap<>();
        ArrayDeque<Object> waiting = new ArrayDeque<>();
        waiting.add(root);
        seen.put(root, true);
        long parts = 0;
        while (!waiting.isEmpty()) {
            Object next = waiting.remove();
            if (next.getClass().isArray()) {
                parts += Array.getLength(next);
                for (int i = 0; i < Array.getLength(next) && next instanceof Object[]; i++) {
                    visit(Array.get(next, i), seen, waiting);
                }
                continue;
            }
            for (Field field : next.getClass().getDeclaredFields()) {
                if (!Modifier.isStatic(field.getModifiers())) {
                    parts++;
                    field.setAccessible(true);
                    if (!field.getType().isPrimitive()) {
                        visit(field.get(next), seen, waiting);
                    }
                }
            }
        }
        return new long[] {seen.size(), parts};
    }

    private static void visit(Object found, Map<Object, Boolean> seen, ArrayDeque<Object> waiting) {
        if (found != null && seen.put(found, true) == null) {
            waiting.add(found);
        }
    }

    /** Merging, typing and compiling again and again makes no objects. */
    private static void steady(MergeDesk desk) {
        if (!(ManagementFactory.getThreadMXBean() instanceof com.sun.management.ThreadMXBean bean)
                || !bean.isThreadAllocatedMemorySupported()) {
            return;
        }
        long thread = Thread.currentThread().getId();
        long sum = 0;
        for (int i = 0; i < 20; i++) {
            sum += desk.merge();
        }
        long before = bean.getThreadAllocatedBytes(thread);
        for (int i = 0; i < 60; i++) {
            sum += desk.merge() + desk.size() + desk.about(3) + desk.number(0, 1, 0);
        }
        for (int i = 0; i < 60; i++) {
            desk.type(0x7D612B312B617BL, 7);
            sum += desk.compile();
        }
        Check.same("a template", desk.about(2), 1);
        long made = bean.getThreadAllocatedBytes(thread) - before;
        Check.same("360 calls made " + made + " bytes (" + sum + ")", made < 16 * 1024, true);
    }
}
