import java.lang.management.ManagementFactory;
import java.lang.reflect.Array;
import java.lang.reflect.Field;
import java.lang.reflect.Modifier;
import java.util.ArrayDeque;
import java.util.Collections;
import java.util.Deque;
import java.util.IdentityHashMap;
import java.util.Set;

/**
 * The room that all calls of a run share: an object makes its rows when it is made and no call makes more.
 * Reflection may not open the library's classes, so a text is counted as one object.
 */
public final class RoomTest {
    private static final int OBJECTS = 400;
    private static final int PLACES = 8000;

    private static Check check;
    private static int objects;
    private static int places;

    public static void main(String[] args) throws IllegalAccessException {
        check = new Check("RoomTest");
        GallopDispatch x = new GallopDispatch();
        measure(x);
        int objectsAtFirst = objects;
        int placesAtFirst = places;
        check.due("objects and arrays: " + objects, objects > 1 && objects <= OBJECTS, true);
        check.due("fields and elements: " + places, places > 1 && places <= PLACES, true);
        GallopDispatch rich = Rich.made();
        everyCall(rich);
        measure(rich);
        check.due("objects after calls of every kind", objects, objectsAtFirst);
        check.due("places after calls of every kind", places, placesAtFirst);
        callsMakeNothing();
        check.end();
    }

    private static void measure(Object root) throws IllegalAccessException {
        objects = 0;
        places = 0;
        Set<Object> met = Collections.newSetFromMap(new IdentityHashMap<>());
        Deque<Object> open = new ArrayDeque<>();
        met.add(root);
        open.add(root);
        while (!open.isEmpty()) {
            Object it = open.remove();
            objects++;
            if (it.getClass().isArray()) {
                places += Array.getLength(it);
                for (int k = 0; it instanceof Object[] && k < Array.getLength(it); k++) {
                    meet(Array.get(it, k), met, open);
                }
            } else if (!it.getClass().getName().startsWith("java.")) {
                for (Field f : it.getClass().getDeclaredFields()) {
                    if (Modifier.isStatic(f.getModifiers())) {
                        continue;
                    }
                    places++;
                    f.setAccessible(true);
                    if (!f.getType().isPrimitive()) {
                        meet(f.get(it), met, open);
                    }
                }
            }
        }
    }

    private static void meet(Object it, Set<Object> met, Deque<Object> open) {
        if (it != null && met.add(it)) {
            open.add(it);
        }
    }

    /** man is asked of those who are there alone: its exception is the one object that a call makes. */
    private static int everyCall(GallopDispatch x) {
        int sum = x.feed(0x793A7600, 0, 0, 0, 0) + (x.end(3) ? 1 : 0) + x.fault(0) + x.fault(1) + x.text(0) + x.text(1);
        sum += x.rule(0) + x.man(0, 0) + x.ford(0, 0) + (x.law(0) ? 1 : 0) + x.heard(0, 0);
        sum += x.move(0, 1) + x.voice(0, 3) + x.deed(0) + x.feedHorse(true) + x.fill(0) + x.rain(3) + x.days(2);
        sum += (x.storm(5) ? 1 : 0) + x.years(2, 77L) + x.status(0) + x.undo() + x.log(0, 0) + x.words(-1) + x.words(0);
        sum += x.mentions(0) + x.ride(3) + x.stand(0, 0) + x.gait(0, 0) + x.put(0) + x.least(0) + x.seen(0, 0, false);
        sum += x.who(2, -1) + x.best(2) + x.pension(0, 9, 0) + x.unfair(9) + x.game(0, 1, 2, 2, 0) + x.rests(0, 1, -1);
        sum += x.odds(0, 50) + x.loudest(0) + x.span(0) + x.nearest(0) + x.most(0) + x.ahead(0, 9);
        return sum + x.image() + x.back() + x.count(0);
    }

    /** The first rounds are for the machine's own loading; of the later ones at least one must have made nothing. */
    private static void callsMakeNothing() {
        com.sun.management.ThreadMXBean threads =
            (com.sun.management.ThreadMXBean) ManagementFactory.getThreadMXBean();
        long self = Thread.currentThread().getId();
        long least = Long.MAX_VALUE;
        for (int round = 0; round < 20; round++) {
            GallopDispatch x = Rich.made();
            long before = threads.getThreadAllocatedBytes(self);
            everyCall(x);
            long made = threads.getThreadAllocatedBytes(self) - before;
            least = Math.min(least, made);
        }
        long before = threads.getThreadAllocatedBytes(self);
        long nothing = threads.getThreadAllocatedBytes(self) - before;
        check.due("bytes that a call of every kind makes", Math.max(0, least - nothing), 0);
    }
}
