import java.lang.management.ManagementFactory;
import java.lang.reflect.Array;
import java.lang.reflect.Field;
import java.lang.reflect.Modifier;
import java.util.ArrayDeque;
import java.util.Collections;
import java.util.Deque;
import java.util.IdentityHashMap;
import java.util.Set;

/** All calls of a run live in one room: an object makes its rows when it is made, and nothing after that. */
public final class RoomTest {
    private static final int CALLS = 512;
    private static final int ROOM_OF_OBJECTS = 600000;
    private static final int ROOM_OF_ELEMENTS = 7300000;

    public static void main(String[] args) throws IllegalAccessException {
        com.sun.management.ThreadMXBean meter = (com.sun.management.ThreadMXBean) ManagementFactory.getThreadMXBean();
        long thread = Thread.currentThread().getId();
        everyCall(new MovingExits());
        long before = meter.getThreadAllocatedBytes(thread);
        long beforeToo = meter.getThreadAllocatedBytes(thread);
        MovingExits x = new MovingExits();
        long made = meter.getThreadAllocatedBytes(thread) - beforeToo;
        for (int i = 0; i < 20; i++) {
            everyCall(x);
        }
        long after = meter.getThreadAllocatedBytes(thread) - beforeToo - made;
        System.out.println(made + " bytes for an object, " + after + " for its calls");
        fitsIfEachCallMadeOne();
        Asked.due("its calls make nothing", after <= 4 * (beforeToo - before) + 256 ? 1 : 0, 1);
        Asked.close();
    }

    private static void fitsIfEachCallMadeOne() throws IllegalAccessException {
        Set<Object> objects = Collections.newSetFromMap(new IdentityHashMap<>());
        Deque<Object> found = new ArrayDeque<>();
        found.add(new MovingExits());
        int elements = 0;
        while (!found.isEmpty()) {
            Object object = found.poll();
            if (objects.add(object)) {
                elements += object.getClass().isArray() ? elementsOf(object, found) : fieldsOf(object, found);
            }
        }
        System.out.println(objects.size() + " objects with " + elements + " fields and elements");
        Asked.due("objects fit", objects.size() * CALLS <= ROOM_OF_OBJECTS ? 1 : 0, 1);
        Asked.due("elements fit", elements * CALLS <= ROOM_OF_ELEMENTS ? 1 : 0, 1);
    }

    private static int elementsOf(Object array, Deque<Object> found) {
        int length = Array.getLength(array);
        for (int i = 0; i < length && !array.getClass().getComponentType().isPrimitive(); i++) {
            found.add(Array.get(array, i));
        }
        return length;
    }

    private static int fieldsOf(Object object, Deque<Object> found) throws IllegalAccessException {
        int fields = 0;
        for (Field field : object.getClass().getDeclaredFields()) {
            if (!Modifier.isStatic(field.getModifiers())) {
                fields++;
                if (!field.getType().isPrimitive()) {
                    field.setAccessible(true);
                    found.add(field.get(object));
                }
            }
        }
        return fields;
    }

    private static void everyCall(MovingExits x) {
        x.end(0);
        // hall rows 6 seats 6 law 4;place 0 0 to 0 then 0;exit 0 wide 1;sits 5 5;
        x.feed(0x68616c6c, 0x20726f77, 0x73203620, 0x73656174, 0x73203620);
        x.feed(0x6c617720, 0x343b706c, 0x61636520, 0x30203020, 0x746f2030);
        x.feed(0x20746865, 0x6e20303b, 0x65786974, 0x20302077, 0x69646520);
        x.feed(0x313b7369, 0x74732035, 0x20353b20, 0x20202020, 0x20202020);
        Asked.due("hall()", x.hall(), 4);
        x.fault(1);
        x.place(0, 0);
        x.exit(0, 0);
        x.sits(5, 5);
        x.at(0, 0);
        x.who(0, 0);
        x.behind(0, 0);
        x.leads(0, 0);
        x.doubles(0);
        x.slip();
        x.round();
        x.again();
        x.next(0, 0, 0);
        x.sees(0);
        x.far(0, 0, 0);
        x.by(0, 0, 0);
        x.falls(0, 0, 0);
        x.best(0);
        x.worst(0);
        x.kept(0);
        x.breaks(0);
        x.screws(0);
        x.lawful();
        x.out(0, 20);
        x.soonest(0);
        x.quickest(60);
        x.wider(0, 20, 0);
        x.stand(7);
        x.stands(7);
        x.needs();
        x.wind(0);
        x.calmest(60);
        x.row(0, 0, 6);
        x.write(0, 0, 0);
        x.paste(0, 0, 0, 1, 3);
        x.seen(0);
        x.ask(0);
        x.leaves(0);
        x.fell(0);
        x.many(0);
        x.sure(0, 0);
        x.known(0, 0, 60);
        x.blind(0, 0, 60);
        x.goes(0, 0, 60);
        x.worth(60);
        x.lured(0, 0);
        x.danger(0);
        x.claque(0, 0);
        x.lastly(0, 0);
        x.screw(0, 0);
        x.king(0, 0, 0);
        x.seats(0, 0, 1);
        x.undo();
        x.drawn(0, 0, 0);
        x.lucky(0, 20, 0);
        x.count(0);
        x.image(0);
        x.back(0);
    }
}
