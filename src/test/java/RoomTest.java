import java.lang.management.ManagementFactory;
import java.lang.reflect.Array;
import java.lang.reflect.Field;
import java.lang.reflect.Modifier;
import java.util.IdentityHashMap;

/** All calls of one run live in one room: what an object takes, and that no call takes more. */
public final class RoomTest {
    private static final int MOST_CALLS = 512;
    private static final int ROOM_OBJECTS = 600000;
    private static final int ROOM_ELEMENTS = 7300000;
    private static final Checks c = new Checks();
    private int objects;
    private int elements;
    private final IdentityHashMap<Object, Object> met = new IdentityHashMap<>();

    public static void main(String[] args) throws Exception {
        RoomTest room = new RoomTest();
        room.walk(new BaleTallies());
        System.out.println("an object: " + room.objects + " objects and arrays, " + room.elements + " fields and elements");
        c.part("room");
        c.due("objects fit, if every call made one", room.objects * MOST_CALLS > ROOM_OBJECTS ? 1 : 0, 0);
        c.due("elements fit, if every call made one", room.elements * MOST_CALLS > ROOM_ELEMENTS ? 1 : 0, 0);
        callsMakeNothing();
        c.finish();
    }

    private void walk(Object o) throws Exception {
        if (o == null || met.put(o, o) != null) {
            return;
        }
        objects++;
        Class<?> type = o.getClass();
        if (type.isArray()) {
            elements += Array.getLength(o);
            for (int i = 0; !type.getComponentType().isPrimitive() && i < Array.getLength(o); i++) {
                walk(Array.get(o, i));
            }
            return;
        }
        for (Field f : type.getDeclaredFields()) {
            if (!Modifier.isStatic(f.getModifiers())) {
                elements++;
                f.setAccessible(true);
                if (!f.getType().isPrimitive()) {
                    walk(f.get(o));
                }
            }
        }
    }

    private static void callsMakeNothing() {
        if (!(ManagementFactory.getThreadMXBean() instanceof com.sun.management.ThreadMXBean threads)) {
            return;
        }
        BaleTallies x = new BaleTallies();
        everyCall(x);
        long before = threads.getCurrentThreadAllocatedBytes();
        long between = threads.getCurrentThreadAllocatedBytes();
        everyCall(x);
        long after = threads.getCurrentThreadAllocatedBytes();
        c.due("bytes that calls took", (int) (after - between - (between - before)), 0);
    }

    private static void everyCall(BaleTallies x) {
        x.feed(0x6241413A, 0x392A373B, 0x62414258, 0x3A392A37, 0x3B740000);
        x.end(17);
        x.text();
        x.feed(0x7430_4030, 0x3A412E23, 0x353B_7431, 0x40303A41, 0x2E23353B);
        x.text();
        x.feed(0x732B6F2A, 0x32000000, 0, 0, 0);
        x.end(5);
        x.law();
        x.fault();
        for (int i = 0; i < 14; i++) {
            x.is(i);
            x.bill(0, i);
            x.line(0, i);
            x.tally(0, i);
            x.heap(0, i);
            x.hold(0, i);
        }
        x.apart(0, 0);
        x.read(0);
        x.least(0);
        x.brought(12, 0);
        x.matched(0);
        x.best(0);
        x.remark(0, 1, 2);
        x.remarked(0, 0, 0);
        x.claim(0, 3);
        x.limit(4);
        x.far(9);
        x.pack(90);
        x.paid(-1);
        x.against(0, 0);
        x.close(0);
        x.blame(0, 0);
        x.worn(0, 0);
        x.twin(0, 0);
        x.shed(0);
        x.days(3);
        x.rate(1, 2);
        x.deliver(0, 1);
        x.gone(0);
        x.settled(-1);
        x.settled(0);
        x.cure(0);
        x.strike(0);
        x.write();
        x.octet(0);
        for (int i = 0; i < 21; i++) {
            x.back();
        }
    }
}
