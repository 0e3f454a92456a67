import java.util.Random;

/** Any call with any arguments, at any time, compared with the model. */
public final class ModelWild {
    private static final int[] INTS = {Integer.MIN_VALUE, Integer.MIN_VALUE + 1, -65536, -17, -2, -1, 15, 16, 17, 39, 40, 41, 63, 64, 65, 399, 400, 401, 999, 1000,
        3999, 4000, 4001, 20000, 40000, 65540, 100000, 100001, Integer.MAX_VALUE - 1, Integer.MAX_VALUE};
    private static final long[] LONGS = {Long.MIN_VALUE, -1L, 1L << 31, 1L << 32, 0x7F800000L, 0x7F800001L, 0x7FF0000000000000L, 0x7FF0000000000001L, Long.MAX_VALUE, 127, 128, 255,
        32767, 32768, 65535, 65536, -128, -129, 4294967295L};
    private static final String[] TRAYS = {"", "f", "n", "LA;", "[I", "[[[LA;", "class A{int n;A a;int f(){return n;}}enum E{K}record R(int n,Text t){}interface I{}", "class", "{",
        "from a in A give a", "from a in A give a.n,a.f()", "\u0000\u0001", "OG", "\"", "'", "interface A{} class B implements A{double d;long l;}", "from e in E order e.number give \"x\""};

    private final Random r;
    private final ObjectHouse x = new ObjectHouse();
    private final Model m = new Model();
    private final StringBuilder trace = new StringBuilder();

    private ModelWild(long seed) {
        r = new Random(seed);
    }

    private int i() {
        return r.nextInt(5) == 0 ? INTS[r.nextInt(INTS.length)] : r.nextInt(r.nextBoolean() ? 6 : 16);
    }

    private long l() {
        return r.nextInt(4) == 0 ? LONGS[r.nextInt(LONGS.length)] : r.nextInt(r.nextBoolean() ? 3 : 12);
    }

    private void same(String call, long got, long want) {
        trace.append(call).append(" = ").append(want).append('\n');
        if (got != want) {
            throw new IllegalStateException(call + " answered " + got + ", model says " + want);
        }
    }

    private void call() {
        int a = i();
        int b = i();
        int c = i();
        int d = i();
        long p = l();
        long q = l();
        String two = "(" + a + "," + b + ")";
        String four = "(" + a + "," + b + "," + c + "," + p + ")";
        switch (r.nextInt(60)) {
            case 0: same("end", x.end(a), m.end(a)); break;
            case 1: same("declare", x.declare(), m.declare()); break;
            case 2: same("place", x.place(), m.place()); break;
            case 3: same("kind", x.kind(), m.kind()); break;
            case 4: same("kinds", x.kinds(), m.kinds()); break;
            case 5: same("fits" + two, x.fits(a, b), m.fits(a, b)); break;
            case 6: same("fields" + two, x.fields(a), m.fields(a)); break;
            case 7: same("field" + two, x.field(a, b), m.field(a, b)); break;
            case 8: same("named" + two, x.named(a), m.named(a)); break;
            case 9: same("begin", x.begin(), m.begin()); break;
            case 10: same("use" + two, x.use(a) ? 1 : 0, m.use(a)); break;
            case 11: same("view" + two, x.view(a) ? 1 : 0, m.view(a)); break;
            case 12: same("keep" + two, x.keep(a), m.keep(a)); break;
            case 13: same("clash", x.clash(), m.clash()); break;
            case 14: same("drop" + two, x.drop(a) ? 1 : 0, m.drop(a)); break;
            case 15: same("newest", x.newest(), m.newest()); break;
            case 16: case 57: case 58: same("make" + two, x.make(a), m.make(a)); break;
            case 17: same("argument" + four, x.argument(a, p), m.argument(a, p)); break;
            case 18: same("record" + two, x.record(a), m.record(a)); break;
            case 19: same("array" + two, x.array(a, b), m.array(a, b)); break;
            case 20: same("text", x.text(), m.text()); break;
            case 21: same("constant" + two, x.constant(a, b), m.constant(a, b)); break;
            case 22: same("kindOf" + two, x.kindOf(a), m.kindOf(a)); break;
            case 23: same("size" + two, x.size(a), m.size(a)); break;
            case 24: same("letter" + two, x.letter(a, b), m.letter(a, b)); break;
            case 25: same("get" + two, x.get(a, b), m.get(a, b)); break;
            case 26: same("put" + four, x.put(a, b, c, p), m.put(a, b, c, p)); break;
            case 27: same("element" + two, x.element(a, b), m.element(a, b)); break;
            case 28: same("set" + four, x.set(a, b, c, p), m.set(a, b, c, p)); break;
            case 29: same("code", x.code(), m.code()); break;
            case 30: same("copy" + four + d, x.copy(a, b, c, d, (int) p), m.copy(a, b, c, d, (int) p)); break;
            case 31: same("cloned" + two, x.cloned(a), m.cloned(a)); break;
            case 32: same("root" + two, x.root(a, b), m.root(a, b)); break;
            case 33: same("rootAt" + two, x.rootAt(a), m.rootAt(a)); break;
            case 34: same("alive" + two, x.alive(a) ? 1 : 0, m.alive(a)); break;
            case 35: same("call" + two, x.call(a, b), m.call(a, b)); break;
            case 36: same("answered", x.answered(), m.answered()); break;
            case 37: same("ask" + two, x.ask(a), m.ask(a)); break;
            case 38: same("answer" + two, x.answer(a, b), m.answer(a, b)); break;
            case 39: same("answerKind" + two, x.answerKind(a), m.answerKind(a)); break;
            case 40: same("steps", x.steps(), m.steps()); break;
            case 41: same("range" + four, x.range(a, b, p, q), m.range(a, b, p, q)); break;
            case 42: same("found" + two, x.found(a), m.found(a)); break;
            case 43: same("write" + two, x.write(a), m.write(a)); break;
            case 44: same("at" + two, x.at(a), m.at(a)); break;
            case 45: same("read", x.read(), m.read()); break;
            case 46: same("same" + two, x.same(a, b), m.same(a, b)); break;
            case 47: same("patch" + two, x.patch(a, b), m.patch(a, b)); break;
            case 48: same("row" + two, x.row(a, b), m.row(a, b)); break;
            case 49: same("apply", x.apply(), m.apply()); break;
            case 50: same("sweep" + two, x.sweep(a), m.sweep(a)); break;
            case 51: same("logged", x.logged(), m.logged()); break;
            case 52: same("logAt" + two, x.logAt(a), m.logAt(a)); break;
            case 53: same("poke" + two, x.poke(a, b) ? 1 : 0, m.poke(a, b)); break;
            case 54: same("crash" + two, r.nextInt(4) == 0 ? crash(a) : 0, 0); break;
            case 55: same("reopen", x.reopen(), m.reopen()); break;
            case 56: same("feed", x.feed(a, b, c, d, (int) p), m.feed(a, b, c, d, (int) p)); break;
            default: tray();
        }
    }

    private int crash(int n) {
        same("crash(" + n + ")", x.crash(n) ? 1 : 0, m.crash(n));
        return 0;
    }

    private void tray() {
        byte[] b = TRAYS[r.nextInt(TRAYS.length)].getBytes(java.nio.charset.StandardCharsets.ISO_8859_1);
        if (r.nextInt(5) == 0) {
            b = m.graph.clone();
        }
        Check.tray(x, b);
        m.tray = b;
        trace.append("TRAY ").append(new String(b, java.nio.charset.StandardCharsets.ISO_8859_1)).append('\n');
    }

    public static void main(String[] args) {
        int n = args.length > 0 ? Integer.parseInt(args[0]) : 300;
        for (long seed = 0; seed < n; seed++) {
            ModelWild w = new ModelWild(seed);
            try {
                if (w.r.nextInt(4) > 0) {
                    Check.tray(w.x, TRAYS[6]);
                    w.m.tray = TRAYS[6].getBytes();
                    w.same("declare", w.x.declare(), w.m.declare());
                    w.same("begin", w.x.begin(), w.m.begin());
                }
                for (int i = 0; i < 900; i++) {
                    w.call();
                }
            } catch (RuntimeException e) {
                String t = w.trace.toString();
                System.out.println("seed " + seed + ": " + e + "\n" + t.substring(Math.max(0, t.length() - 1500)));
                e.printStackTrace(System.out);
                System.exit(1);
            }
        }
        System.out.println("ModelWild: program and model agree on " + n + " runs");
    }
}
