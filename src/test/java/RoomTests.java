import java.lang.management.ManagementFactory;
import java.lang.reflect.Array;
import java.lang.reflect.Field;
import java.lang.reflect.Modifier;
import java.util.ArrayDeque;
import java.util.Deque;
import java.util.IdentityHashMap;
import java.util.Map;

/** The room that an object takes: nearly all of it when it is made, and next to nothing for its calls. */
public final class RoomTests {
    private static int objects = 0;
    private static long elements = 0;

    public static void main(String[] args) throws Exception {
        ObjectHouse x = new ObjectHouse();
        count(x);
        Check.is("objects below 200", objects < 200, true);
        Check.is("fields and elements below 1500000", elements < 1500000, true);
        use(new ObjectHouse());
        long before = allocated();
        use(x);
        long after = allocated();
        Check.is("bytes that calls take, below 20000: " + (after - before), after - before < 20000, true);
        Check.end("RoomTests");
    }

    private static long allocated() {
        return ((com.sun.management.ThreadMXBean) ManagementFactory.getThreadMXBean()).getThreadAllocatedBytes(Thread.currentThread().getId());
    }

    private static void count(Object root) throws Exception {
        Map<Object, Boolean> seen = new IdentityHashMap<>();
        Deque<Object> open = new ArrayDeque<>();
        open.add(root);
        while (!open.isEmpty()) {
            Object o = open.pop();
            if (seen.put(o, true) != null) {
                continue;
            }
            objects++;
            if (o.getClass().isArray()) {
                elements += Array.getLength(o);
                for (int i = 0; i < Array.getLength(o) && !o.getClass().getComponentType().isPrimitive(); i++) {
                    open.add(Array.get(o, i));
                }
                continue;
            }
            for (Field f : o.getClass().getDeclaredFields()) {
                f.setAccessible(true);
                elements++;
                if (!Modifier.isStatic(f.getModifiers()) && !f.getType().isPrimitive() && f.get(o) != null) {
                    open.add(f.get(o));
                }
            }
        }
    }

    /** Some 300 calls that use everything. */
    private static void use(ObjectHouse x) {
        byte[] text = "class A{int n;A a;double d;int f(int i){return i==0?n:f(i-1)+(count x in A:x.d*1.5>x.n);}}".getBytes();
        byte[] query = "from a in A,b in A where a.n<=b.n order a.d down give a,b.n,\"t\"".getBytes();
        feed(x, text);
        x.declare();
        x.begin();
        for (int i = 0; i < 10; i++) {
            int t = x.make(10);
            x.put(t, 0, 4, i);
            x.put(t, 1, 8, 1);
            x.put(t, 2, 5, 7L);
        }
        int act = 1;
        for (int i = 0; i < 12; i++) {
            feed(x, query);
            x.ask(10000);
            x.argument(4, 20);
            feed(x, new byte[] {'f'});
            x.call(1, 100000);
            x.write(2);
            x.same(2, 3);
            x.patch(2, 3);
            x.apply();
            x.range(10, 2, 0, Long.MAX_VALUE);
            x.root(0, 1);
            x.keep(act);
            x.sweep(x.newest());
            act = x.begin();
        }
        x.crash(1000000);
        x.reopen();
    }

    private static void feed(ObjectHouse x, byte[] b) {
        x.end(0);
        for (int i = 0; i < b.length; i += 20) {
            x.feed(four(b, i), four(b, i + 4), four(b, i + 8), four(b, i + 12), four(b, i + 16));
        }
        x.end(b.length);
    }

    private static int four(byte[] b, int from) {
        int v = 0;
        for (int i = from; i < from + 4; i++) {
            v = v << 8 | (i < b.length ? b[i] & 255 : 0);
        }
        return v;
    }
}
