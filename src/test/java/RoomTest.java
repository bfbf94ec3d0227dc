import java.lang.reflect.Array;
import java.lang.reflect.Field;
import java.lang.reflect.Modifier;
import java.util.IdentityHashMap;
import java.util.Map;

/** What an object holds, counted: made once in the constructor, and the same after 512 calls. */
public final class RoomTest {
    private static final int MOST_OBJECTS = 200;
    private static final int MOST_ELEMENTS = 5000;

    private final Map<Object, Boolean> seen = new IdentityHashMap<>();
    private int elements;

    public static void main(String[] args) throws Exception {
        Due due = new Due("RoomTest");
        PointReports x = new PointReports();
        RoomTest before = new RoomTest();
        before.walk(x);
        due.yes(before.seen.size() + " objects", before.seen.size() <= MOST_OBJECTS);
        due.yes(before.elements + " fields and elements", before.elements <= MOST_ELEMENTS);
        work(x);
        RoomTest after = new RoomTest();
        after.walk(x);
        due.is("objects after 512 calls", after.seen.size(), before.seen.size());
        due.is("fields and elements after 512 calls", after.elements, before.elements);
        due.yes("no other objects", before.seen.keySet().equals(after.seen.keySet()));
        due.end();
    }

    /** 512 calls that fill the line, the events and what the master keeps. */
    private static void work(PointReports x) {
        x.kind(0, 1);
        x.kind(1, 2);
        x.kind(2, 3);
        x.reports(true);
        for (int n = 0; n < 76; n++) {
            x.tick();
            x.change(0, n);
            x.change(1, n);
            x.change(2, n);
            x.poll(15);
            x.bring(n % 2 == 0 ? 0 : x.flying() - 1);
        }
        for (int n = 0; n < 14; n++) {
            x.feed(n);
        }
    }

    private void walk(Object o) throws Exception {
        if (o == null || seen.put(o, true) != null) {
            return;
        }
        if (o.getClass().isArray()) {
            elements += Array.getLength(o);
            if (o instanceof Object[] row) {
                for (Object element : row) {
                    walk(element);
                }
            }
            return;
        }
        for (Field f : o.getClass().getDeclaredFields()) {
            if (!Modifier.isStatic(f.getModifiers())) {
                elements++;
                f.setAccessible(true);
                if (!f.getType().isPrimitive()) {
                    walk(f.get(o));
                }
            }
        }
    }
}
