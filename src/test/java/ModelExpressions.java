import java.nio.charset.StandardCharsets;
import java.util.*;

/** Expressions alone: types, steps, values and errors, many in one class text. */
public final class ModelExpressions {
    public static void main(String[] args) {
        long from = args.length > 0 ? Long.parseLong(args[0]) : 0;
        long to = args.length > 1 ? Long.parseLong(args[1]) : 1000;
        Map<Long, Integer> stats = new TreeMap<>();
        for (long seed = from; seed < to; seed++) {
            Random r = new Random(seed);
            StringBuilder s = new StringBuilder("enum E{K,L,M}record R(int a,double b,float c,long d,Text t,R n,int[] is){}class C{boolean z;byte b;short s;char c;int i;long l;float f;double d;C n;E e;Text t;R r;Object o;double[] ds;C[] cs;");
            List<String> names = new ArrayList<>();
            String[] rts = {"boolean", "byte", "short", "char", "int", "long", "float", "double"};
            int n = 6;
            for (int k = 0; k < n; k++) {
                String t = rts[r.nextInt(8)];
                s.append(t).append(" m").append(k).append("(int p,double q,long w,float v){return ").append(new Gen(r).of(t, 1 + r.nextInt(5))).append(";}");
                names.add("m" + k);
            }
            s.append("}");
            ObjectHouse x = new ObjectHouse();
            Model m = new Model();
            feed(x, m, s.toString());
            same(seed, s, "declare", x.declare(), m.declare(), stats);
            same(seed, s, "place", x.place(), m.place(), null);
            if (!m.declared) continue;
            x.begin();
            m.begin();
            int a = x.make(12);
            m.make(12);
            int b = x.make(12);
            m.make(12);
            for (int t = a; t <= b; t++) for (int i = 0; i < 8; i++) {
                long bits = bits(r, i);
                same(seed, s, "put", x.put(t, i, i, bits), m.put(t, i, i, bits), stats);
            }
            x.put(a, 8, 8, b); m.put(a, 8, 8, b);
            x.put(a, 9, 8, 2); m.put(a, 9, 8, 2);
            x.put(b, 12, 8, a); m.put(b, 12, 8, a);
            int arr = x.array(7, 3); m.array(7, 3);
            for (int i = 0; i < 3; i++) { long v = bits(r, 7); x.set(arr, i, 7, v); m.set(arr, i, 7, v); }
            x.put(a, 13, 8, arr); m.put(a, 13, 8, arr);
            for (int k = 0; k < n; k++) for (int rep = 0; rep < 3; rep++) {
                int[] ks = {4, 7, 5, 6};
                for (int kk : ks) { long v = bits(r, kk); x.argument(kk, v); m.argument(kk, v); }
                feed(x, m, names.get(k));
                int lim = r.nextInt(4) == 0 ? r.nextInt(20) : 2000;
                same(seed, s, "call", x.call(a, lim), m.call(a, lim), stats);
                same(seed, s, names.get(k) + " answered", x.answered(), m.answered(), null);
                same(seed, s, "steps", x.steps(), m.steps(), null);
            }
        }
        System.out.println("ModelExpressions: program and model agree on " + (to - from) + " texts");
    }

    static long bits(Random r, int k) {
        switch (k) {
            case 0: return r.nextInt(2);
            case 1: return (byte) r.nextInt();
            case 2: return (short) r.nextInt();
            case 3: return (char) r.nextInt();
            case 4: return r.nextInt(3) > 0 ? r.nextInt(9) - 4 : r.nextInt() >> r.nextInt(32);
            case 5: return r.nextInt(3) > 0 ? r.nextInt(9) - 4 : r.nextLong() >> r.nextInt(64);
            case 6: {
                float f = r.nextInt(2) == 0 ? (float) (r.nextGaussian() * Math.pow(10, r.nextInt(12) - 6)) : Float.intBitsToFloat(r.nextInt());
                if (r.nextInt(8) == 0) f = new float[] {0f, -0f, 1f / 0f, -1f / 0f, Float.MIN_VALUE, Float.MAX_VALUE, 16777217f, Float.MIN_NORMAL}[r.nextInt(8)];
                if (f != f) f = 1f;
                return Float.floatToRawIntBits(f) & 0xFFFFFFFFL;
            }
            default: {
                double f = r.nextInt(2) == 0 ? r.nextGaussian() * Math.pow(10, r.nextInt(40) - 20) : Double.longBitsToDouble(r.nextLong());
                if (r.nextInt(8) == 0) f = new double[] {0, -0.0, 1 / 0.0, -1 / 0.0, Double.MIN_VALUE, Double.MAX_VALUE, 9007199254740993.0, Double.MIN_NORMAL, 4e-320, 1e19, -1e19, 3e9}[r.nextInt(12)];
                if (f != f) f = 1;
                return Double.doubleToRawLongBits(f);
            }
        }
    }

    static final class Gen {
        final Random r;
        Gen(Random r) { this.r = r; }
        String any(String... s) { return s[r.nextInt(s.length)]; }

        String of(String t, int d) {
            if (r.nextInt(150) == 0) t = any("boolean", "int", "double", "Text", "C");
            if (d <= 0 || r.nextInt(10) == 0) return leaf(t);
            switch (r.nextInt(12)) {
                case 0: return "(" + of("boolean", d - 1) + "?" + of(t, d - 1) + ":" + of(t, d - 1) + ")";
                case 1:
                    if (t.equals("boolean")) break;
                    return "(" + t + ")" + sub(any("byte", "short", "char", "int", "long", "float", "double"), d);
                default:
            }
            boolean wide = t.equals("int") || t.equals("long") || t.equals("float") || t.equals("double");
            if (wide) {
                if (r.nextInt(9) == 0) return "-" + sub(t, d);
                if (r.nextInt(9) == 0) return quant("sum", t, d);
                String u = r.nextInt(2) == 0 ? t : any(new String[][] {{"int", "byte", "char"}, {"long", "int"}, {"float", "long", "int"}, {"double", "float", "long"}}[t.equals("int") ? 0 : t.equals("long") ? 1 : t.equals("float") ? 2 : 3]);
                String op = t.equals("int") || t.equals("long") ? any("+", "-", "*", "/", "%", "&", "|", "^") : any("+", "-", "*", "/", "%");
                if ((t.equals("int") || t.equals("long")) && r.nextInt(5) == 0) return sub(t, d) + any("<<", ">>", ">>>") + sub(any("int", "long", "char"), d);
                if ((t.equals("int") || t.equals("long")) && r.nextInt(9) == 0) return "~" + sub(t, d);
                if (t.equals("int") && r.nextInt(9) == 0) return any("e.number", "t.length()", "cs.length", "ds.length", "\"abc\".length()", "count y in C:y.z", "(C[])null == cs ? 1 : 2");
                return r.nextInt(2) == 0 ? sub(t, d) + op + sub(u, d) : sub(u, d) + op + sub(t, d);
            }
            if (t.equals("boolean")) {
                switch (r.nextInt(7)) {
                    case 0: return "!" + sub(t, d);
                    case 1: return sub(t, d) + any("&&", "||", "&", "|", "^", "==", "!=") + sub(t, d);
                    case 2: return quant(any("exists", "all"), t, d);
                    case 3: return sub(any("C", "Object", "R"), d) + any("==", "!=") + sub(any("C", "Object", "null"), d);
                    case 4: return sub(any("C", "Object", "R"), d) + " instanceof " + any("C", "R", "E", "Object", "Text");
                    default: return sub(any("byte", "char", "int", "long", "float", "double"), d) + any("<", ">", "<=", ">=", "==", "!=") + sub(any("short", "int", "long", "float", "double"), d);
                }
            }
            if (t.equals("C")) return any("this", "n", "n.n", "this.n", "((C)o)", "cs[" + of("int", d - 1) + "]");
            if (t.equals("char")) return any("t", "\"hello\"") + ".at(" + of("int", d - 1) + ")";
            return leaf(t);
        }

        String quant(String q, String t, int d) {
            String[] s = new String[][] {{"C", "w0."}, {"ds", ""}, {"E", ""}, {"R", ""}}[r.nextInt(4)];
            return "(" + q + " w0 in " + s[0] + ":" + of(t, d - 1) + ")";
        }

        String sub(String t, int d) {
            String e = of(t, d - 1);
            return r.nextInt(25) == 0 ? e : "(" + e + ")";
        }

        String leaf(String t) {
            switch (t) {
                case "boolean": return any("z", "true", "false", "n.z", "n==null");
                case "byte": return any("b", "n.b", "(byte)5");
                case "short": return any("s", "n.s", "b");
                case "char": return any("c", "n.c", "'x'");
                case "int": return any("i", "n.i", "p", "b", "s", "c", "0", "1", "7", "2147483647", "w0");
                case "long": return any("l", "n.l", "w", "i", "9223372036854775807L", "3L");
                case "float": return any("f", "n.f", "v", "l", "(float)0.1");
                case "double": return any("d", "n.d", "q", "f", "l", "0.5", "1.0", "123456789.012345", "ds[1]");
                case "C": return any("this", "n", "null");
                case "Text": return any("t", "\"x\"");
                case "R": return any("r", "null");
                case "null": return "null";
                default: return any("o", "this", "t");
            }
        }
    }

    static void feed(ObjectHouse x, Model m, String s) {
        x.end(0);
        byte[] b = s.getBytes(StandardCharsets.ISO_8859_1);
        for (int i = 0; i < b.length; i += 20) {
            int[] v = new int[5];
            for (int k = 0; k < 20; k++) v[k / 4] = v[k / 4] << 8 | (i + k < b.length ? b[i + k] & 255 : 0);
            x.feed(v[0], v[1], v[2], v[3], v[4]);
        }
        x.end(b.length);
        m.tray = b;
    }

    static void same(long seed, CharSequence text, String what, long got, long want, Map<Long, Integer> stats) {
        if (stats != null) stats.merge(what.equals("declare") ? want * 1000 : want, 1, Integer::sum);
        if (got == want) return;
        System.out.println("seed " + seed + " " + what + " got " + got + " want " + want + "\n" + text);
        System.exit(1);
    }
}
