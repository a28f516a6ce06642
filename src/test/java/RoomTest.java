import com.sun.management.ThreadMXBean;
import java.lang.management.ManagementFactory;
import java.lang.reflect.Array;
import java.lang.reflect.Field;
import java.lang.reflect.Modifier;
import java.util.Collections;
import java.util.IdentityHashMap;
import java.util.Set;

/** All calls of a run live in one room: an object is small, and its calls take nothing more. */
public final class RoomTest {
    private static final Check c = new Check("RoomTest");
    private static int objects;
    private static int elements;

    public static void main(String[] args) throws IllegalAccessException {
        PlanesBack x = new PlanesBack();
        walk(x, Collections.newSetFromMap(new IdentityHashMap<>()));
        System.out.println("RoomTest: " + objects + " objects and arrays, " + elements + " fields and elements");
        c.is("objects and arrays", objects > 10 && objects <= 150);
        c.is("fields and elements", elements > 1000 && elements <= 12000);
        callsTakeNothing();
        c.end();
    }

    private static void walk(Object o, Set<Object> seen) throws IllegalAccessException {
        if (o == null || !seen.add(o)) {
            return;
        }
        objects++;
        if (o.getClass().isArray()) {
            elements += Array.getLength(o);
            for (int i = 0; i < Array.getLength(o) && !o.getClass().getComponentType().isPrimitive(); i++) {
                walk(Array.get(o, i), seen);
            }
            return;
        }
        for (Field f : o.getClass().getDeclaredFields()) {
            if (!Modifier.isStatic(f.getModifiers())) {
                elements++;
                f.setAccessible(true);
                if (!f.getType().isPrimitive()) {
                    walk(f.get(o), seen);
                }
            }
        }
    }

    private static void callsTakeNothing() {
        ThreadMXBean threads = (ThreadMXBean) ManagementFactory.getThreadMXBean();
        long self = Thread.currentThread().getId();
        PlanesBack[] all = new PlanesBack[50];
        for (int i = 0; i < all.length; i++) {
            all[i] = new PlanesBack();
        }
        run(new PlanesBack());
        long before = threads.getThreadAllocatedBytes(self);
        for (PlanesBack x : all) {
            run(x);
        }
        long taken = threads.getThreadAllocatedBytes(self) - before;
        // Some of it may be the machine's own: one small object a call would be several times as much.
        c.is("50 runs of some 100 calls took " + taken + " bytes", taken < 20000);
    }

    private static void run(PlanesBack x) {
        x.kind(1000, 500, 400, 5010);
        x.plane(5000);
        x.need(0, 0, 3);
        for (int i = 0; i < 6; i++) {
            x.part(0, i + 1, i, i, i);
            x.move(i, i % 2 == 0 ? 0 : 10);
        }
        x.past(0, 11, 180009900, 0, 0, 50000010);
        x.feed(4, 'd' | '?' << 8 | 'n' << 16 | ':' << 24);
        x.feed(3, '-' | '(' << 8 | '1' << 16);
        x.feed(1, ')');
        x.law(0);
        x.feed(4, 'h' | ' ' << 8 | '0' << 16 | ' ' << 24);
        x.feed(4, '9' | ' ' << 8 | '1' << 16 | ';' << 24);
        x.contract(0, 3, 100);
        x.order(0, 5);
        x.done(0, 0);
        x.link(0, 1, 2);
        for (int i = 0; i < 3; i++) {
            x.days(2);
            x.fly(0, 10, 3);
            x.swap(0, 1);
            x.swap(1, 0);
            x.repair(1, 7);
            x.claim(1, 5);
            x.paper(0, i, 1);
            x.best(0, 0);
            x.bestCost();
            x.reserve(0, 0);
            for (int k = 0; k < 8; k++) {
                x.ofPlane(0, k);
                x.ofPart(0, k);
                x.stay(0, 0, k);
                x.count(k);
            }
            x.ofPart(0, 8);
            x.left(0, 0, 9);
            x.least(0, 9);
            x.lost(0, 0, 9);
            x.grounded(0, 9);
            x.lacks(0, 0, 9, 9);
            x.costs(0, -1, 9, 9);
            x.half(0, 9);
            x.insure(0);
            x.net(0, 0, 9);
        }
        x.giveBack(0);
    }
}
