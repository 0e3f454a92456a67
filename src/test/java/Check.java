import java.nio.charset.StandardCharsets;

/** What the tests share: feeding texts, comparing answers, and telling the result. */
final class Check {
    private static int wrong = 0;
    private static int answers = 0;

    private Check() {
    }

    /** Makes these bytes the whole tray. */
    static void tray(ObjectHouse x, byte[] bytes) {
        x.end(0);
        for (int i = 0; i < bytes.length; i += 20) {
            int[] v = new int[5];
            for (int k = 0; k < 20; k++) {
                v[k / 4] = v[k / 4] << 8 | (i + k < bytes.length ? bytes[i + k] & 255 : 0);
            }
            x.feed(v[0], v[1], v[2], v[3], v[4]);
        }
        x.end(bytes.length);
    }

    static void tray(ObjectHouse x, String text) {
        tray(x, text.getBytes(StandardCharsets.ISO_8859_1));
    }

    static void is(String call, long got, long due) {
        answers++;
        if (got != due) {
            wrong++;
            System.out.println(call + " answered " + got + ", due is " + due);
        }
    }

    static void is(String call, boolean got, boolean due) {
        is(call, got ? 1L : 0L, due ? 1L : 0L);
    }

    /** Declares a class text that must be right. */
    static ObjectHouse house(String text) {
        ObjectHouse x = new ObjectHouse();
        tray(x, text);
        is("declare " + text, x.declare() >= 0, true);
        return x;
    }

    /** Declares a class text and begins a transaction. */
    static ObjectHouse open(String text) {
        ObjectHouse x = house(text);
        is("begin()", x.begin(), 1);
        return x;
    }

    static int call(ObjectHouse x, int t, String name, int steps) {
        tray(x, name);
        return x.call(t, steps);
    }

    static int ask(ObjectHouse x, String query, int steps) {
        tray(x, query);
        return x.ask(steps);
    }

    static int kind(ObjectHouse x, String descriptor) {
        tray(x, descriptor);
        return x.kind();
    }

    static int text(ObjectHouse x, String text) {
        tray(x, text);
        return x.text();
    }

    static long bits(double d) {
        return Double.doubleToRawLongBits(d);
    }

    static long bits(float f) {
        return Float.floatToRawIntBits(f) & 0xFFFFFFFFL;
    }

    static void end(String name) {
        System.out.println(name + ": " + answers + " answers, " + wrong + " wrong");
        if (wrong != 0) {
            System.exit(1);
        }
    }
}
