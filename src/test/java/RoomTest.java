import java.lang.management.ManagementFactory;
import java.lang.reflect.InvocationTargetException;
import java.lang.reflect.Method;
import java.lang.reflect.Modifier;
import java.util.ArrayList;
import java.util.Comparator;
import java.util.List;
import java.util.Random;

/** No argument makes a call throw, in any state; and no call makes an object. */
public final class RoomTest {
    private static final Check check = new Check("RoomTest");
    private static final long[] EDGES = {-1, -2, 0, 1, 2, 3, 4, 5, 6, 7, 8, 12, 24, 25, 60, 61, 99, 120, 255, 256, 3040,
        Integer.MAX_VALUE, Integer.MIN_VALUE, Integer.MAX_VALUE - 1, Long.MAX_VALUE, Long.MIN_VALUE};

    public static void main(String[] args) throws ReflectiveOperationException {
        wildCalls();
        room();
        check.end();
    }

    private static void wildCalls() throws ReflectiveOperationException {
        List<Method> calls = new ArrayList<>();
        for (Method m : BeesSting.class.getDeclaredMethods()) {
            if (Modifier.isPublic(m.getModifiers())) {
                calls.add(m);
            }
        }
        calls.sort(Comparator.comparing(Method::getName));
        check.due("calls of the face", calls.size(), 37);
        for (int run = 0; run < 300; run++) {
            Random random = new Random(run);
            BeesSting x = new BeesSting();
            for (int i = random.nextInt(9); i > 0; i--) {
                x.person(random.nextInt(256));
            }
            for (int i = 0; i < 500; i++) {
                wildCall(x, calls.get(random.nextInt(calls.size())), random);
            }
        }
    }

    private static void wildCall(BeesSting x, Method call, Random random) throws ReflectiveOperationException {
        Class<?>[] types = call.getParameterTypes();
        Object[] given = new Object[types.length];
        StringBuilder told = new StringBuilder(call.getName());
        for (int i = 0; i < given.length; i++) {
            long v = EDGES[random.nextInt(random.nextInt(3) == 0 ? EDGES.length : 8)];
            given[i] = types[i] == long.class ? (Object) v : (Object) (int) v;
            told.append(' ').append(given[i]);
        }
        try {
            call.invoke(x, given);
        } catch (InvocationTargetException e) {
            check.holds(told + " threw " + e.getCause(), false);
        }
    }

    /** Every call of the face once, the searches with the dearest days. */
    private static long allCalls(BeesSting x) {
        long sum = x.person(9) + x.people(4, 0, 8) + x.mend(0, 1, 5) + x.mend(0, 1, 6) + x.of(0, 1) + x.feed('k')
            + x.feed(';') + x.feed('c') + x.law() + x.loud(0) + x.day(0, 24, 2) + x.stung(0, 24, 1, 0) + x.reach()
            + x.soon(0) + x.passOn(0, 0, 0) + x.orders(1, -1) + x.orders(1, 0) + x.stand(0, 0, 0)
            + x.lastWord(1, 6, 0) + x.crier(0, 0) + x.keepNear(0) + x.heard(2, 3, 0) + x.drawn(1, 3040, 0);
        return sum + x.say(0, 1) + x.go(0, 4) + x.pad(0) + x.led(0) + x.image() + x.back() + x.undo() + x.redo()
            + x.body(7) + x.act(0, 3, 1) + x.trace(0) + x.keep(5, 0) + x.row(5, 1, 60) + x.put(5, 1, 1)
            + x.element(5, 1) + x.shift(5, 0, 5, 1, 9) + x.taken(5, 0) + x.count(0);
    }

    private static BeesSting dear() {
        BeesSting x = Check.parish(0x00, 0x13, 0x31, 0x22, 0x40, 0x04, 0x55, 0x11);
        Check.law(x, "((c+g)*(d+h)-n)%(k+3)>1?9;k*(n<20)");
        Check.bytes(x, 0, 1, 3, 5, 7, 9, 11, 13, 15, 1, 3, 5, 7, 9, 11, 13, 15, 1, 3, 5, 7, 9, 11, 13, 15);
        Check.bytes(x, 1, 1, 3, 5, 7, 9, 11, 13);
        Check.bytes(x, 2, 1, 3, 5, 7, 9, 11, 13, 15, 1, 3, 5, 7);
        Check.bytes(x, 3);
        Check.row(x, 4, 1, 1, 2, 3, 4, 5, 6);
        x.body(5);
        return x;
    }

    private static void room() {
        com.sun.management.ThreadMXBean meter =
            (com.sun.management.ThreadMXBean) ManagementFactory.getThreadMXBean();
        long me = Thread.currentThread().getId();
        BeesSting warm = dear();
        long sum = allCalls(warm) + meter.getThreadAllocatedBytes(me);
        long start = meter.getThreadAllocatedBytes(me);
        long between = meter.getThreadAllocatedBytes(me);
        BeesSting x = dear();
        long made = meter.getThreadAllocatedBytes(me);
        sum += allCalls(x) + allCalls(x);
        long end = meter.getThreadAllocatedBytes(me);
        long meters = between - start;
        check.holds("calls make nothing, but made bytes: " + (end - made - meters), end - made - meters == 0);
        check.holds("a parish is small, but has bytes: " + (made - between), made - between < 40000);
        check.holds("its calls were made", sum != 0);
    }
}
