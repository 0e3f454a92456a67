import java.util.*;

/** The limits of texts: depth, height, counts, lengths; and runs against the limits of the store. */
public final class ModelLimits {
    static Random r;
    static int decls = 0;
    static Map<String, Integer> stats = new TreeMap<>();

    static String any(String... s) { return s[r.nextInt(s.length)]; }

    static void declare(String s) {
        ObjectHouse x = new ObjectHouse();
        Model m = new Model();
        ModelExpressions.feed(x, m, s);
        int a = x.declare();
        int b = m.declare();
        stats.merge("" + b, 1, Integer::sum);
        if (a != b || x.place() != m.place() || x.kinds() != m.kinds()) {
            System.out.println("declare got " + a + "@" + x.place() + " want " + b + "@" + m.place() + "\n" + s);
            System.exit(1);
        }
    }

    static void ask(String s) {
        ObjectHouse x = new ObjectHouse();
        Model m = new Model();
        ModelExpressions.feed(x, m, "class C{C n;int i;int[] is;int g(int p,int q){return i;}boolean z(){return true;}}");
        if (x.declare() != m.declare()) throw new IllegalStateException();
        x.begin(); m.begin();
        x.make(10); m.make(10);
        x.put(1, 0, 8, 1); m.put(1, 0, 8, 1);
        ModelExpressions.feed(x, m, s);
        int a = x.ask(1000);
        int b = m.ask(1000);
        stats.merge("ask" + b, 1, Integer::sum);
        if (a != b || x.place() != m.place() || x.steps() != m.steps() || x.answer(0, 0) != m.answer(0, 0)) {
            System.out.println("ask got " + a + "@" + x.place() + " want " + b + "@" + m.place() + "\n" + s);
            System.exit(1);
        }
    }

    static String nest(int n, String core) {
        String s = core;
        for (int i = 0; i < n; i++) {
            switch (r.nextInt(12)) {
                case 0: case 1: s = "(" + s + ")"; break;
                case 2: s = "-" + s; break;
                case 3: s = "(int)" + s; break;
                case 4: s = "true?" + s + ":1"; if (r.nextInt(2) == 0) s = "(" + s + ")"; else i--; break;
                case 5: s = "true?1:" + s; if (r.nextInt(2) == 0) s = "(" + s + ")"; break;
                case 6: s = "g(" + s + ",2)"; break;
                case 7: s = "g(1," + s + ")"; break;
                case 8: s = "is[" + s + "]"; break;
                case 9: s = "(sum y in C:" + s + ")"; i++; break;
                case 10: s = "~" + s; break;
                default: s = "1+" + s; i--; break;
            }
        }
        return s;
    }

    static String chain() {
        int n = 26 + r.nextInt(8);
        StringBuilder s = new StringBuilder();
        switch (r.nextInt(6)) {
            case 0: s.append("1"); for (int i = 0; i < n; i++) s.append("+1"); break;
            case 1: s.append("n"); for (int i = 0; i < n; i++) s.append(".n"); s.append(".i"); break;
            case 2: s.append("this"); for (int i = 0; i < n; i++) s.append(".n"); s.append(".g(1,2)"); break;
            case 3: s.append("i"); for (int i = 0; i < n; i++) s.append("*2-1"); s.append("+x"); break;
            case 4: for (int i = 0; i < n; i++) s.append("("); s.append("1"); for (int i = 0; i < n; i++) s.append(")"); break;
            default: s.append("1"); for (int i = 0; i < n; i++) s.insert(0, "(").append("+1)"); break;
        }
        return s.toString();
    }

    static String cls(String body) { return "class C{C n;int i;int[] is;int g(int p,int q){return i;}int f(){return " + body + ";}}"; }

    static String many(String one, int n, String between) {
        StringBuilder s = new StringBuilder();
        for (int i = 0; i < n; i++) s.append(i > 0 ? between : "").append(one.replace("#", "" + i));
        return s.toString();
    }

    static void counts() {
        int d = r.nextInt(4) - 1;
        switch (r.nextInt(16)) {
            case 0: declare(many("class A#{}", 60 + d, " ")); break;
            case 1: declare("class A{" + many("int f#(){return 1;}", 20 + d, "") + any("", "int z;", "int z(", "int z(){return 1;}", "abstract int z();", "abstract", "5", "int 5") + "}"); break;
            case 2: declare("record A(){" + many("int f#(){return 1;}", 20 + d, "") + any("", "5", "int 5") + "}"); break;
            case 3: declare("interface A{" + many("int f#();", 20 + d, "") + "}"); break;
            case 4: declare("abstract class A{" + many("abstract int f#();", 20 + d, "") + "}"); break;
            case 5: declare("class A{int f(" + many("int p#", 8 + d, ",") + any("", ",", ", 5") + "){return 1;}}"); break;
            case 6: declare("enum A{" + many("K#", 40 + d, ",") + any("", ",") + "}"); break;
            case 7: declare("class A{" + many("int f#;", 40 + d, "") + "}"); break;
            case 8: declare("record A(" + many("int f#", 40 + d, ",") + "){}"); break;
            case 9: {
                int k = r.nextInt(40);
                String p = "class P{" + many("int f#;", k, "") + "}";
                String c = "class C extends P{" + many("int g#;", 40 + d - k, "") + "}";
                declare(r.nextInt(2) == 0 ? p + c : c + p);
                break;
            }
            case 10: declare("class A{int" + "[]".repeat(8 + d) + " x;int y" + any(";", "(int" + "[]".repeat(7 + r.nextInt(3)) + " p){return 1;}") + "}"); break;
            case 11: declare("class A{int " + "x".repeat(30 + d) + ";Text t(){return \"" + "y".repeat(100 + r.nextInt(3) - 1) + "\";}}"); break;
            case 12: declare("class A{double f(){return " + "1".repeat(7) + "." + "2".repeat(8 + d) + ";}long g(){return " + any("9223372036854775807L", "9223372036854775808L", "0000009223372036854775807L") + ";}}"); break;
            case 13: declare("class A{int f(){return " + any("2147483647", "2147483648", "00000000002147483647", "99999999999999999999999", "3000000000.5", "1.") + ";}}"); break;
            case 14: {
                // types up to 400
                StringBuilder s = new StringBuilder();
                int n = 48;
                for (int i = 0; i < n; i++) s.append("class A").append(i).append("{}");
                s.append("class Z{");
                int left = 400 - 10 - n - 1;
                int k = 0;
                for (int i = 0; i < n && left > 0; i++) {
                    int dims = Math.min(8, left + d + 1);
                    if (left < 8) dims = Math.max(1, Math.min(8, left + r.nextInt(3)));
                    if (k % 40 == 39) break;
                    s.append("A").append(i).append("[]".repeat(dims)).append(" f").append(k++).append(";");
                    left -= dims;
                }
                s.append("}class Y{");
                for (int i = 40; i < n && left > -3; i++) {
                    int dims = Math.max(1, Math.min(8, left + r.nextInt(3)));
                    s.append("A").append(i).append("[]".repeat(dims)).append(" f").append(i).append(";");
                    left -= dims;
                }
                s.append("boolean h(Object o){return o instanceof ").append(any("int[]", "A0[][]", "A47[][][]", "Object[]")).append(";}}");
                declare(s.toString());
                break;
            }
            default:
                ask("from " + many("v# in C", 3 + r.nextInt(2), ",") + " give " + many("v0", 4 + r.nextInt(2), ",") + any("", ",", " 5"));
        }
    }

    /** Runs that meet the limits of objects, cells, changes, versions, the log, and openings. */
    static void store(long seed) {
        r = new Random(seed);
        ObjectHouse x = new ObjectHouse();
        Model m = new Model();
        ModelExpressions.feed(x, m, "class A{A n;int i;}class Z{}record R(A a,Text t){}class W{" + many("long f#;", 40, "") + "}");
        x.declare(); m.declare();
        x.begin(); m.begin();
        int kind = r.nextInt(6);
        for (int op = 0; op < 400; op++) {
            int k = r.nextInt(100);
            int t = m.next > 1 ? 1 + r.nextInt(m.next - 1) : 1;
            if (!m.changing() && r.nextInt(2) == 0) { eq("begin", x.begin(), m.begin()); continue; }
            int tx = m.txs.isEmpty() ? 1 : new ArrayList<>(m.txs.keySet()).get(r.nextInt(m.txs.size()));
            if (k < 15) { int n = r.nextInt(3) == 0 ? 400 : r.nextInt(100); eq("array", x.array(4, n), m.array(4, n)); }
            else if (k < 25) eq("make", x.make(13), m.make(13));
            else if (k < 35 && kind < 3) {
                // a graph of many objects
                int n = 1 + r.nextInt(kind == 0 ? 4000 : 600);
                java.io.ByteArrayOutputStream o = new java.io.ByteArrayOutputStream();
                o.write(79); o.write(71); o.write(1); o.write(3); o.write('L'); o.write('Z'); o.write(';');
                Model.shortNumber(o, n);
                for (int i = 0; i < n; i++) o.write(0);
                Model.number(o, Model.crc(o.toByteArray(), o.size()), 4);
                bytes(x, m, o.toByteArray());
                eq("read", x.read(), m.read());
                eq("place", x.place(), m.place());
            } else if (k < 60) {
                int i = r.nextInt(400);
                long v = r.nextInt();
                if (m.infos.containsKey(t) && m.info(t).type.startsWith("[")) eq("set", x.set(t, i, 4, v), m.set(t, i, 4, v));
                else eq("put", x.put(t, i % 41, 4, v), m.put(t, i % 41, 4, v));
            } else if (k < 75) {
                eq("keep", x.keep(tx), m.keep(tx));
                eq("clash", x.clash(), m.clash());
            } else if (k < 80) eq("drop", x.drop(tx) ? 1 : 0, m.drop(tx));
            else if (k < 84) eq("root", x.root(r.nextInt(2) == 0 ? 0 : 1, t), m.root(0, t) * 0 + m.root(1, t) * 0 + x.root(0, t) * 0 + x.root(1, t));
            else if (k < 88) { int u = 1 + r.nextInt(m.next); eq("patch", x.patch(t, u), m.patch(t, u)); }
            else if (k < 91) eq("apply", x.apply(), m.apply());
            else if (k < 94) eq("cloned", x.cloned(t), m.cloned(t));
            else if (k < 96) eq("write", x.write(t), m.write(t));
            else if (k < 97) { int v = m.opened() ? m.versions.lastKey() : 0; eq("sweep", x.sweep(v), m.sweep(v)); }
            else if (k < 98 && kind > 3) {
                int n = r.nextInt(3) == 0 ? r.nextInt(100) : 100000;
                eq("crash", x.crash(n) ? 1 : 0, m.crash(n));
                eq("reopen", x.reopen(), m.reopen());
            } else if (k < 99) eq("begin", x.begin(), m.begin());
            else {
                String s = "from a in A, b in Z, c in A give a.i, c";
                ModelExpressions.feed(x, m, s);
                eq("ask", x.ask(100000), m.ask(100000));
                eq("steps", x.steps(), m.steps());
            }
            eq("logged", x.logged(), m.logged());
        }
        for (int i = 0; i < m.log.length; i++) if (x.logAt(i) != m.logAt(i)) throw new IllegalStateException("log");
        for (int i = 0; i < 25; i++) {
            eq("crash", x.crash(3000) ? 1 : 0, m.crash(3000));
            eq("reopen", x.reopen(), m.reopen());
            eq("view", x.view(m.opened() ? m.versions.lastKey() : 0) ? 1 : 0, m.view(m.opened() ? m.versions.lastKey() : 0));
            for (int t = 1; t < m.next && i % 8 == 0; t++) { eq("alive", x.alive(t) ? 1 : 0, m.alive(t)); eq("get", x.get(t, 1), m.get(t, 1)); eq("element", x.element(t, 7), m.element(t, 7)); }
            eq("begin", x.begin(), m.begin());
            eq("make", x.make(10), m.make(10));
            int n = r.nextInt(300);
            eq("array", x.array(5, n), m.array(5, n));
            eq("keep", x.keep(1), m.keep(1));
        }
    }

    static void bytes(ObjectHouse x, Model m, byte[] b) {
        x.end(0);
        for (int i = 0; i < b.length; i += 20) {
            int[] v = new int[5];
            for (int k = 0; k < 20; k++) v[k / 4] = v[k / 4] << 8 | (i + k < b.length ? b[i + k] & 255 : 0);
            x.feed(v[0], v[1], v[2], v[3], v[4]);
        }
        x.end(b.length);
        m.tray = b;
    }

    static void eq(String what, long got, long want) {
        stats.merge(what + (want < 0 ? "" + want : want == 0 ? "=0" : "+"), 1, Integer::sum);
        if (got != want) throw new IllegalStateException(what + " got " + got + " want " + want);
    }

    public static void main(String[] a) {
        int n = a.length > 0 ? Integer.parseInt(a[0]) : 400;
        for (int i = 0; i < n; i++) {
            r = new Random(i);
            String e = r.nextInt(3) == 0 ? chain() : nest(24 + r.nextInt(10), any("1", "i", "x", ")", "()", "g()"));
            if (r.nextInt(6) == 0) e = ModelRuns.mutate(new ModelRuns.G(i), e);
            declare(cls(e));
            ask("from n in C where " + e.replace("g(", "n.g(").replace("is[", "n.is[").replaceAll("\\bi\\b", "n.i") + ">0 give n");
            ask("from n in C " + any("give ", "order ") + e.replace("g(", "n.g(").replace("is[", "n.is[").replaceAll("\\bi\\b", "n.i") + any("", " down give n", " give n", " give n,n.n"));
            counts();
        }
        for (int i = 0; i < n / 20; i++) {
            try {
                store(i);
            } catch (RuntimeException e) {
                System.out.println("store seed " + i + " " + e);
                e.printStackTrace(System.out);
                System.exit(1);
            }
        }
        System.out.println("ModelLimits: program and model agree on " + n + " texts");
    }
}
