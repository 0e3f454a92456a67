import java.util.*;

/** Declarations from few names, so that they collide; and the limits of graphs, patches, changes and arguments. */
public final class ModelDeclarations {
    static Random r;
    static String any(String... s) { return s[r.nextInt(s.length)]; }
    static String name() { return r.nextInt(30) == 0 ? any("A", "B", "Object", "Text", "C") : any("a", "b", "c", "d", "e"); }
    static String cname() { return r.nextInt(40) == 0 ? any("Object", "Text", "D") : any("A", "B", "C", "D", "E"); }
    static String type() { return r.nextInt(25) == 0 ? any("Q", "Z[]", "a") : any("int", "int", "int", "long", "A", "B", "A[]", "B[][]", "Object", "Text"); }

    static String method(String sort) {
        StringBuilder s = new StringBuilder();
        boolean ab = sort.equals("abstract class") ? r.nextInt(3) == 0 : r.nextInt(60) == 0;
        boolean de = sort.equals("interface") ? r.nextInt(2) == 0 : r.nextInt(60) == 0;
        if (ab) s.append("abstract ");
        else if (de) s.append("default ");
        s.append(r.nextInt(5) > 0 ? "int" : type()).append(" ").append(any("f", "g", "h")).append("(");
        int n = r.nextInt(3) > 0 ? 0 : r.nextInt(3);
        for (int i = 0; i < n; i++) s.append(i > 0 ? "," : "").append(r.nextInt(4) > 0 ? "int" : type()).append(" ").append(name());
        s.append(")");
        boolean body = !ab && (!sort.equals("interface") || de);
        if (r.nextInt(60) == 0) body = !body;
        s.append(body ? "{return " + any("1", "1", "1", "null", "a", "f()", "1<2 instanceof A", "1 instanceof A<2", "this instanceof A == true?1:2", "a.b", "A.a", "A.b.number") + ";}" : ";");
        return s.toString();
    }

    static String decl() {
        String sort = any("class", "class", "abstract class", "interface", "interface", "record", "enum");
        StringBuilder s = new StringBuilder(sort + " " + cname());
        if (sort.equals("enum")) {
            s.append("{").append(name());
            for (int i = 0; i < r.nextInt(3); i++) s.append(",").append(name());
            return s.append("}").toString();
        }
        if (sort.equals("record")) {
            s.append("(");
            int n = r.nextInt(3);
            for (int i = 0; i < n; i++) s.append(i > 0 ? "," : "").append(type()).append(" ").append(name());
            s.append(")");
        }
        if (sort.endsWith("class") && r.nextInt(2) == 0) s.append(" extends ").append(cname());
        if (r.nextInt(2) == 0) {
            s.append(sort.equals("interface") ? " extends " : " implements ").append(cname());
            if (r.nextInt(3) == 0) s.append(",").append(cname());
        }
        s.append("{");
        int n = r.nextInt(4);
        for (int i = 0; i < n; i++) {
            if (sort.endsWith("class") && r.nextInt(2) == 0) s.append(type()).append(" ").append(name()).append(";");
            else s.append(method(sort));
        }
        return s.append("}").toString();
    }

    static void declare(Map<String, Integer> stats) {
        StringBuilder s = new StringBuilder();
        int n = 1 + r.nextInt(5);
        for (int i = 0; i < n; i++) s.append(decl()).append(" ");
        ObjectHouse x = new ObjectHouse();
        Model m = new Model();
        ModelExpressions.feed(x, m, s.toString());
        int a = x.declare();
        int b = m.declare();
        stats.merge("" + b, 1, Integer::sum);
        if (a != b || x.place() != m.place() || x.kinds() != m.kinds()) {
            System.out.println("got " + a + "@" + x.place() + " want " + b + "@" + m.place() + "\n" + s);
            System.exit(1);
        }
        if (a < 0) return;
        x.begin(); m.begin();
        for (int k = 10; k < m.types.size(); k++) {
            int t = m.make(k);
            eq("make", x.make(k), t);
            if (t < 0) continue;
            for (String f : new String[] {"f", "g", "h"}) for (int c = 0; c < 3; c++) {
                for (int i = 0; i < c; i++) { x.argument(4, i); m.argument(4, i); }
                ModelExpressions.feed(x, m, f);
                int w = m.call(t, 300);
                stats.merge("call" + w, 1, Integer::sum);
                eq("call", x.call(t, 300), w);
                eq("steps", x.steps(), m.steps());
                eq("answered", x.answered(), m.answered());
            }
        }
        for (int k = 0; k < m.types.size(); k++) for (int j = 0; j < m.types.size(); j++) eq("fits", x.fits(k, j), m.fits(k, j));
    }

    static void eq(String what, long got, long want) {
        if (got != want) throw new IllegalStateException(what + " got " + got + " want " + want);
    }

    static void changes() {
        ObjectHouse x = new ObjectHouse();
        Model m = new Model();
        ModelExpressions.feed(x, m, "class A{A n;int i;int[] is;A[] as;}record R(int i){}");
        x.declare(); m.declare();
        x.begin(); m.begin();
        int arrays = 45 + r.nextInt(6);
        for (int i = 0; i < arrays; i++) { int n = 400 - r.nextInt(3); eq("array", x.array(4, n), m.array(4, n)); }
        eq("keep", x.keep(1), m.keep(1));
        for (int i = 0; i < 180; i++) {
            if (m.viewTx == null || r.nextInt(60) == 0) eq("begin", x.begin(), m.begin());
            int t = 1 + r.nextInt(m.next - 1);
            int u = 1 + r.nextInt(m.next - 1);
            int k = r.nextInt(12);
            if (k == 0) eq("copy", x.copy(t, 0, u, 3, 5), m.copy(t, 0, u, 3, 5));
            else if (k == 1) { eq("patch", x.patch(t, u), m.patch(t, u)); eq("apply", x.apply(), m.apply()); }
            else if (k == 2) eq("drop", x.drop(m.lastTx) ? 1 : 0, m.drop(m.lastTx));
            else if (k == 3) eq("cloned", x.cloned(t), m.cloned(t));
            else if (k == 4 && r.nextInt(8) == 0) { int n = r.nextInt(100); eq("crash", x.crash(n) ? 1 : 0, m.crash(n)); eq("reopen", x.reopen(), m.reopen()); if (m.next == 1) return; }
            else eq("set", x.set(t, 1, 4, i), m.set(t, 1, 4, i));
        }
    }

    static void bigGraphs() {
        ObjectHouse x = new ObjectHouse();
        Model m = new Model();
        StringBuilder s = new StringBuilder("class A{A n;int i;Object[] os;}");
        for (int i = 0; i < 40; i++) s.append("class B").append(i).append("{A a;Object o;}");
        ModelExpressions.feed(x, m, s.toString());
        x.declare(); m.declare();
        x.begin(); m.begin();
        int top = 97 + r.nextInt(6);
        eq("array", x.array(8, 400), m.array(8, 400));
        int array = 1;
        int n = 0;
        // objects of many types in one array
        for (int k = 0; k < 40 && n < top; k++, n++) {
            int t = m.make(11 + k);
            eq("make", x.make(11 + k), t);
            eq("set", x.set(array, n, 8, t), m.set(array, n, 8, t));
        }
        for (int k = 0; n < top; k++, n++) {
            int kind = 11 + k % 40;
            if (k >= 40) {
                ModelExpressions.feed(x, m, "[LB" + k % 40 + ";");
                kind = m.kind();
                eq("kind", x.kind(), kind);
            }
            int t = m.array(kind, 0);
            eq("array", x.array(kind, 0), t);
            eq("set", x.set(array, n, 8, t), m.set(array, n, 8, t));
        }
        eq("write", x.write(array), m.write(array));
        // bytes about 20000
        int big = m.array(5, 0);
        eq("array", x.array(5, 0), big);
        int root = m.array(8, 60);
        eq("array", x.array(8, 60), root);
        int left = 20000 - 60 - 60;
        for (int i = 0; i < 50 && left > 20; i++) {
            int c = Math.min(400, left / 8 + (left < 3200 ? r.nextInt(9) - 5 : 0));
            int t = m.array(5, c);
            eq("array", x.array(5, c), t);
            if (t < 0) break;
            x.set(root, i, 8, t); m.set(root, i, 8, t);
            left -= 8 * c + 3;
        }
        int w = m.write(root);
        eq("write", x.write(root), w);
        for (int i = -1; i <= m.graph.length; i++) eq("at", x.at(i), m.at(i));
        ModelExpressions.feed(x, m, "from a in Object[] give a");
        // patches about 2000 rows
        int a = m.array(8, 400);
        eq("array", x.array(8, 400), a);
        int b = m.array(8, 400);
        eq("array", x.array(8, 400), b);
        int per = 395 + r.nextInt(10);
        for (int i = 0; i < 6; i++) {
            int p = m.array(4, 400);
            eq("array", x.array(4, 400), p);
            int q = m.array(4, 400);
            eq("array", x.array(4, 400), q);
            if (p < 0 || q < 0) break;
            for (int k = 0; k < Math.min(per, 400); k++) { x.set(q, k, 4, k + 1); m.set(q, k, 4, k + 1); }
            x.set(a, i, 8, p); m.set(a, i, 8, p);
            if (r.nextInt(3) > 0) { x.set(b, i, 8, q); m.set(b, i, 8, q); }
            eq("patch", x.patch(a, b), m.patch(a, b));
            eq("patch", x.patch(b, a), m.patch(b, a));
            for (int k = 0; k < m.rows.size(); k++) for (int c = 0; c < 5; c++) eq("row", x.row(k, c), m.row(k, c));
        }
        eq("apply", x.apply(), m.apply());
        eq("same", x.same(a, b), m.same(a, b));
        eq("keep", x.keep(1), m.keep(1));
        for (int i = 0; i < 45; i++) eq("argument", x.argument(4, i), m.argument(4, i));
    }

    public static void main(String[] a) {
        Map<String, Integer> stats = new TreeMap<>();
        int n = a.length > 0 ? Integer.parseInt(a[0]) : 4000;
        for (int i = 0; i < n; i++) {
            r = new Random(i);
            try {
                declare(stats);
                if (i % 100 == 0) changes();
                if (i % 200 == 0) bigGraphs();
            } catch (IllegalStateException e) {
                System.out.println("seed " + i);
                e.printStackTrace(System.out);
                System.exit(1);
            }
        }
        System.out.println("ModelDeclarations: program and model agree on " + n + " texts");
    }
}
