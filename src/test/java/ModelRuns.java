import java.nio.charset.StandardCharsets;
import java.util.*;

/** Compares the program with the model on made-up runs. */
public final class ModelRuns {
    static final class Bad extends RuntimeException {
        Bad(String s) { super(s); }
    }

    static final class G {
        final Random r;
        G(long seed) { r = new Random(seed); }
        int n(int k) { return r.nextInt(k); }
        boolean p(int percent) { return r.nextInt(100) < percent; }
        <T> T of(List<T> l) { return l.get(r.nextInt(l.size())); }
        @SafeVarargs final <T> T any(T... l) { return l[r.nextInt(l.length)]; }
    }

    static final String[] PLAIN = {"boolean", "byte", "short", "char", "int", "long", "float", "double"};

    static final class Cls {
        String sort;
        String name;
        String parent;
        List<String> faces = new ArrayList<>();
        List<String[]> fields = new ArrayList<>();   // type, name
        List<String> methods = new ArrayList<>();
        List<String> constants = new ArrayList<>();
    }

    /** Makes class texts and expressions whose types are mostly right. */
    static final class Maker {
        final G g;
        final List<Cls> classes = new ArrayList<>();
        final Map<String, String[]> signatures = new LinkedHashMap<>();   // method name: type, parameter types
        boolean inQuery;

        Maker(G g) { this.g = g; }

        Cls cls(String n) {
            for (Cls c : classes) if (c.name.equals(n)) return c;
            return null;
        }

        String type(boolean arrays) {
            String t;
            if (g.p(45)) t = g.any(PLAIN);
            else if (g.p(15)) t = "Text";
            else if (g.p(12)) t = "Object";
            else if (classes.isEmpty()) t = "int";
            else t = g.of(classes).name;
            if (g.p(1) && g.p(20)) t = "Zzz";
            if (inQuery && arrays) return g.p(90) ? t : "int[]";
            if (arrays && g.p(20)) t += "[]";
            if (arrays && g.p(4)) t += "[]";
            return t;
        }

        List<Cls> chain(Cls c) {
            List<Cls> out = new ArrayList<>();
            for (int n = 0; c != null && n < 70; n++) {
                out.add(c);
                c = c.parent == null ? null : cls(c.parent);
            }
            return out;
        }

        List<String[]> fieldsOf(String t) {
            List<String[]> out = new ArrayList<>();
            Cls c = cls(t);
            if (c != null) for (Cls x : chain(c)) out.addAll(x.fields);
            return out;
        }

        void above(Cls c, Set<Cls> out) {
            if (c == null || !out.add(c)) return;
            if (c.parent != null) above(cls(c.parent), out);
            for (String f : c.faces) above(cls(f), out);
        }

        boolean sub(String a, String b) {
            if (a.equals(b)) return true;
            if (Arrays.asList(PLAIN).contains(a)) return false;
            if (b.equals("Object")) return true;
            if (a.endsWith("[]") && b.endsWith("[]")) return sub(a.substring(0, a.length() - 2), b.substring(0, b.length() - 2));
            Cls c = cls(a);
            if (c == null || cls(b) == null) return false;
            Set<Cls> s = new HashSet<>();
            above(c, s);
            return s.contains(cls(b));
        }

        Set<String> methodsOf(String t) {
            Set<String> out = new TreeSet<>();
            Cls c = cls(t);
            if (c == null) return out;
            Set<Cls> s = new HashSet<>();
            above(c, s);
            for (Cls x : s) out.addAll(x.methods);
            return out;
        }

        String text() {
            int n = 1 + g.n(g.p(10) ? 12 : 6);
            for (int i = 0; i < n; i++) {
                Cls c = new Cls();
                c.sort = g.any("class", "class", "class", "abstract class", "interface", "interface", "enum", "record");
                c.name = "" + (char) ('A' + i) + (g.p(10) ? "_x9" : "");
                if (g.p(1)) c.name = g.any("Object", "Text", "A");
                classes.add(c);
            }
            for (int i = 0; i < 5; i++) {
                int k = g.p(40) ? 0 : 1 + g.n(3);
                String[] s = new String[k + 1];
                for (int j = 0; j <= k; j++) s[j] = g.p(50) ? g.any(PLAIN) : type(true);
                signatures.put("" + (char) ('f' + i), s);
            }
            List<Cls> faces = new ArrayList<>();
            List<Cls> parents = new ArrayList<>();
            for (Cls c : classes) {
                if (c.sort.equals("interface")) faces.add(c);
                if (c.sort.endsWith("class")) parents.add(c);
            }
            int k = 0;
            for (Cls c : classes) {
                if (c.sort.equals("enum")) {
                    for (int i = 0; i <= g.n(4); i++) c.constants.add("K" + i);
                    if (g.p(1)) c.constants.add("K0");
                    continue;
                }
                if (c.sort.endsWith("class") && g.p(50)) {
                    Cls p = g.of(parents);
                    if (classes.indexOf(p) < classes.indexOf(c) || g.p(3)) c.parent = p.name;
                    else if (g.p(10)) c.parent = "Object";
                    if (g.p(1)) c.parent = g.of(classes).name;
                }
                for (Cls f : faces) if (g.p(25) && (!c.sort.equals("interface") || classes.indexOf(f) < classes.indexOf(c) || g.p(2))) c.faces.add(f.name);
                if (g.p(1)) c.faces.add(g.of(classes).name);
                if (c.sort.equals("interface")) continue;
                int m = g.n(5);
                for (int i = 0; i < m; i++) c.fields.add(new String[] {type(true), g.p(2) ? "a0" : (g.p(3) ? "length" : "" + (char) ('a' + i) + k)});
                k++;
            }
            List<String> bodies = new ArrayList<>();
            StringBuilder out = new StringBuilder();
            for (Cls c : classes) for (String s : signatures.keySet()) if (!c.sort.equals("enum") && g.p(c.sort.equals("class") || c.sort.equals("record") ? 45 : 25)) c.methods.add(s);
            // Concrete classes mostly have what their interfaces and parents leave open.
            for (Cls c : classes) {
                if (!c.sort.equals("class") && !c.sort.equals("record")) continue;
                for (String s : methodsOf(c.name)) if (!c.methods.contains(s) && g.p(93)) c.methods.add(s);
            }
            for (Cls c : classes) out.append(decl(c)).append(g.any(" ", "\n", "", "\t"));
            return out.toString();
        }

        String decl(Cls c) {
            StringBuilder o = new StringBuilder(c.sort + " " + c.name);
            String comma = g.any(",", ", ");
            if (c.sort.equals("record")) {
                List<String> fs = new ArrayList<>();
                for (String[] f : c.fields) fs.add(f[0] + " " + f[1]);
                o.append("(").append(String.join(comma, fs)).append(")");
            }
            if (c.parent != null) o.append(" extends ").append(c.parent);
            if (!c.faces.isEmpty()) o.append(c.sort.equals("interface") ? " extends " : " implements ").append(String.join(comma, c.faces));
            o.append("{");
            if (c.sort.equals("enum")) return o.append(String.join(comma, c.constants)).append("}").toString();
            if (!c.sort.equals("record")) for (String[] f : c.fields) o.append(f[0]).append(" ").append(f[1]).append(";");
            for (String m : c.methods) {
                String[] s = signatures.get(m);
                if (g.p(1) && g.p(30)) s = new String[] {"int", "int"};
                List<String> ps = new ArrayList<>();
                Map<String, String> scope = new LinkedHashMap<>();
                for (int i = 1; i < s.length; i++) {
                    String n = g.p(3) ? "a0" : "p" + i;
                    scope.put(n, s[i]);
                    ps.add(s[i] + " " + n);
                }
                boolean isAbstract = c.sort.equals("abstract class") && g.p(40);
                boolean isDefault = c.sort.equals("interface") && g.p(50);
                if (g.p(1) && g.p(30)) isAbstract = !isAbstract;
                o.append(isAbstract ? "abstract " : isDefault ? "default " : "").append(s[0]).append(" ").append(m).append("(").append(String.join(comma, ps)).append(")");
                if (isAbstract || c.sort.equals("interface") && !isDefault) o.append(";");
                else o.append("{return ").append(expr(s[0], c.name, scope, 2 + g.n(4))).append(";}");
            }
            return o.append("}").toString();
        }

        String literal(String t) {
            switch (t) {
                case "boolean": return g.any("true", "false");
                case "byte": return "(byte)" + g.any("1", "300", "-5", "127");
                case "short": return "(short)" + g.any("2", "70000", "-7");
                case "char": return g.any("'a'", "'Z'", "' '", "'0'", "(char)65536", "(char)-1");
                case "int": return g.any("0", "1", "2", "3", "7", "10", "100", "2147483647", "31", "-1", "65536", "1000003");
                case "long": return g.any("0L", "1L", "5L", "9223372036854775807L", "4294967296L", "63L", "-3L", "123456789012L");
                case "float": return "(float)" + g.any("1.5", "0.1", "3", "1000000.25", "0.0", "-0.0", "(1.0/0.0)", "16777217");
                case "double": return g.any("1.5", "0.1", "0.0", "-0.0", "100.25", "3.0", "(1.0/0.0)", "(-1.0/0.0)", "99999999999999.0", "0.00000000000001", "2.5", "7.75");
                case "Text": return g.any("\"\"", "\"a\"", "\"abc\"", "\"b\"", "\"Hello, World\"", "((Text)null)");
                default: return g.p(inQuery ? 1 : 2) ? "null" : "((" + t + ")null)";
            }
        }

        /** An expression of about this type. */
        String expr(String t, String self, Map<String, String> scope, int depth) {
            if (g.p(1) && g.p(25)) t = type(true);
            if (depth <= 0) return leaf(t, self, scope);
            String e = expr0(t, self, scope, depth);
            return e;
        }

        String leaf(String t, String self, Map<String, String> scope) {
            List<String> c = new ArrayList<>();
            for (Map.Entry<String, String> e : scope.entrySet()) if (sub(e.getValue(), t)) c.add(e.getKey());
            if (self != null) {
                for (String[] f : fieldsOf(self)) if (sub(f[0], t) && !scope.containsKey(f[1])) c.add(f[1]);
                if (sub(self, t)) c.add("this");
            }
            if (!c.isEmpty() && g.p(75)) return g.of(c);
            Cls k = cls(t);
            if (k != null && k.sort.equals("enum") && g.p(80)) return t + "." + g.of(k.constants);
            return literal(t);
        }

        String paren(String e) { return g.p(20) ? e : "(" + e + ")"; }

        String refType() {
            String t;
            do t = type(true); while (Arrays.asList(PLAIN).contains(t));
            return t;
        }

        String castFrom(String t) {
            for (int n = 0; n < 6; n++) {
                String s = refType();
                if (sub(s, t) || sub(t, s)) return s;
            }
            return g.p(95) ? t : refType();
        }

        String expr0(String t, String self, Map<String, String> scope, int d) {
            int kind = g.n(100);
            if (kind < 12) return leaf(t, self, scope);
            if (kind < 20) return "(" + expr("boolean", self, scope, d - 1) + "?" + expr(t, self, scope, d - 1) + ":" + expr(t, self, scope, d - 1) + ")";
            if (kind < 34) {
                // a field of something
                List<String[]> all = new ArrayList<>();
                for (Cls c : classes) for (String[] f : c.fields) if (sub(f[0], t)) all.add(new String[] {c.name, f[1]});
                if (!all.isEmpty()) {
                    String[] f = g.of(all);
                    return paren2(expr(f[0], self, scope, d - 1)) + "." + f[1];
                }
            }
            if (kind < 50) {
                List<String[]> all = new ArrayList<>();
                for (Cls c : classes) for (String m : methodsOf(c.name)) if (sub(signatures.get(m)[0], t)) all.add(new String[] {c.name, m});
                if (!all.isEmpty()) {
                    String[] f = g.of(all);
                    List<String> as = new ArrayList<>();
                    String[] s = signatures.get(f[1]);
                    for (int i = 1; i < s.length; i++) as.add(expr(s[i], self, scope, d - 1));
                    String call = f[1] + "(" + String.join(",", as) + ")";
                    if (self != null && methodsOf(self).contains(f[1]) && g.p(50)) return call;
                    return paren2(expr(f[0], self, scope, d - 1)) + "." + call;
                }
            }
            if (kind < 56) return paren2(expr(t + "[]", self, scope, d - 1)) + "[" + expr("int", self, scope, d - 1) + "]";
            if (kind < 62) {
                if (Arrays.asList(PLAIN).contains(t)) {
                    if (t.equals("boolean")) return "(boolean)" + paren(expr(t, self, scope, d - 1));
                    return "(" + t + ")(" + expr(PLAIN[1 + g.n(7)], self, scope, d - 1) + ")";
                }
                return "((" + t + ")" + paren(expr(castFrom(t), self, scope, d - 1)) + ")";
            }
            switch (t) {
                case "boolean": return bool(self, scope, d);
                case "int":
                    if (g.p(10)) return paren2(expr(refType() + "[]", self, scope, d - 1)) + ".length";
                    if (g.p(8)) return paren2(expr("Text", self, scope, d - 1)) + ".length()";
                    if (g.p(8)) for (Cls c : classes) if (c.sort.equals("enum")) return paren2(expr(c.name, self, scope, d - 1)) + ".number";
                    if (g.p(15)) return quantifier("count", "boolean", self, scope, d);
                    if (g.p(15)) return quantifier("sum", g.any("int", "byte", "char"), self, scope, d);
                    return arith(t, g.any("int", "short", "byte", "char"), self, scope, d);
                case "long":
                    if (g.p(15)) return quantifier("sum", "long", self, scope, d);
                    return arith(t, g.any("int", "long", "char"), self, scope, d);
                case "float": return arith(t, g.any("int", "long", "float", "float"), self, scope, d);
                case "double":
                    if (g.p(15)) return quantifier("sum", g.any("float", "double"), self, scope, d);
                    return arith(t, g.any("int", "long", "float", "double", "double"), self, scope, d);
                case "char":
                    return paren2(expr("Text", self, scope, d - 1)) + ".at(" + expr("int", self, scope, d - 1) + ")";
                default: return leaf(t, self, scope);
            }
        }

        String paren2(String e) { return e.matches("[A-Za-z_0-9.]+|\"[^\"]*\"") && !e.matches("[0-9].*") || g.p(2) ? e : "(" + e + ")"; }

        String arith(String t, String other, String self, Map<String, String> scope, int d) {
            String op = t.equals("int") || t.equals("long") ? g.any("+", "-", "*", "/", "%", "&", "|", "^", "<<", ">>", ">>>") : g.any("+", "-", "*", "/", "%");
            if (g.p(10)) return g.any("-", "- ") + (t.equals("int") || t.equals("long") ? g.any("", "~") : "") + paren2(expr(t, self, scope, d - 1));
            boolean swap = g.p(50) && !op.startsWith("<") && !op.startsWith(">");
            String x = paren(expr(swap ? other : t, self, scope, d - 1));
            String y = paren(expr(swap ? t : other, self, scope, d - 1));
            return x + op + (op.equals("-") && y.startsWith("-") ? " " : "") + y;
        }

        String bool(String self, Map<String, String> scope, int d) {
            int k = g.n(100);
            if (k < 25) {
                String a = g.any("int", "long", "double", "float", "char", "short");
                String b = g.any("int", "long", "double", "float", "byte");
                return paren(expr(a, self, scope, d - 1)) + g.any("<", ">", "<=", ">=", "==", "!=") + paren(expr(b, self, scope, d - 1));
            }
            if (k < 45) return paren(expr("boolean", self, scope, d - 1)) + g.any("&&", "||", "&", "|", "^", "==", "!=") + paren(expr("boolean", self, scope, d - 1));
            if (k < 55) return "!" + paren2(expr("boolean", self, scope, d - 1));
            if (k < 65) {
                String t = refType();
                return paren(expr(t, self, scope, d - 1)) + g.any("==", "!=") + paren(expr(castFrom(t), self, scope, d - 1));
            }
            if (k < 75) {
                String t = refType();
                return paren2(expr(castFrom(t), self, scope, d - 1)) + " instanceof " + t;
            }
            return quantifier(g.any("exists", "all"), "boolean", self, scope, d);
        }

        String quantifier(String q, String body, String self, Map<String, String> scope, int d) {
            String n = g.p(5) ? "a0" : g.any("x", "y", "z", "q");
            String[] s = source(self, scope, d);
            Map<String, String> inner = new LinkedHashMap<>(scope);
            inner.put(n, s[1]);
            return "(" + q + " " + n + " in " + s[0] + g.any(":", " : ") + expr(body, self, inner, d - 1) + ")";
        }

        /** A source and the type of what it goes through. */
        String[] source(String self, Map<String, String> scope, int d) {
            if (!classes.isEmpty() && g.p(inQuery ? 90 : 65)) {
                String c = g.of(classes).name;
                return new String[] {c, c};
            }
            String t = type(false);
            return new String[] {paren2(expr(t + "[]", self, scope, d - 1)), t};
        }

        String query() {
            inQuery = true;
            Map<String, String> scope = new LinkedHashMap<>();
            StringBuilder o = new StringBuilder("from ");
            int n = g.p(60) ? 1 : g.p(70) ? 2 : 3;
            if (g.p(1) && g.p(30)) n = 4;
            for (int i = 0; i < n; i++) {
                String[] s = source(null, scope, 2);
                String name = g.p(1) ? "x" : "v" + i;
                o.append(i > 0 ? ", " : "").append(name).append(" in ").append(s[0]);
                scope.put(name, s[1]);
            }
            if (g.p(50)) o.append(" where ").append(expr("boolean", null, scope, 1 + g.n(4)));
            if (g.p(60)) o.append(" order ").append(expr(g.any("int", "double", "Text", "boolean", "long", "char", "float"), null, scope, g.n(3))).append(g.p(40) ? " down" : "");
            o.append(" give ");
            int k = g.p(70) ? 1 : 1 + g.n(4);
            if (g.p(1) && g.p(30)) k = 5;
            for (int i = 0; i < k; i++) o.append(i > 0 ? "," : "").append(expr(type(true), null, scope, g.n(3)));
            return o.toString();
        }
    }

    static String mutate(G g, String s) {
        StringBuilder b = new StringBuilder(s);
        String[] toks = {"{", "}", "(", ")", "[", "]", ",", ";", ".", "?", ":", "=", "+", "-", "*", "/", "%", "<", ">", "!", "~", "&", "^", "|", "<<", ">>", ">>>", "<=", ">=", "==",
            "!=", "&&", "||", " abstract ", " class ", " extends ", " implements ", " interface ", " default ", " enum ", " record ", " return ", " int ", " double ", " true ", " null ",
            " this ", " instanceof ", " in ", " from ", " where ", " order ", " down ", " give ", " exists ", " all ", " count ", " sum ", " A ", " B ", " x ", "1", "2.5", "9999999999", "'a'",
            "\"t\"", "#", "\\", "\"", "'", "5L", " Object ", " Text ", "[]", "()", "a234567890123456789012345678901", "a23456789012345678901234567890", "1234567890123456.5", "12345678901234.5"};
        int n = 1 + g.n(2);
        for (int i = 0; i < n; i++) {
            int at = g.n(b.length() + 1);
            switch (g.n(4)) {
                case 0:
                    b.insert(at, g.any(toks));
                    break;
                case 1:
                    if (at < b.length()) b.deleteCharAt(at);
                    break;
                case 2:
                    if (at < b.length()) {
                        int e = Math.min(b.length(), at + 1 + g.n(6));
                        b.replace(at, e, g.any(toks));
                    }
                    break;
                default:
                    if (at < b.length()) b.setLength(at);
            }
            if (b.length() == 0) return "";
        }
        return b.toString();
    }

    final G g;
    final Maker mk;
    final ObjectHouse x = new ObjectHouse();
    final Model m = new Model();
    final StringBuilder trace = new StringBuilder();
    // Many transactions, collections and crashes.
    final boolean isBusy;
    static final Map<String, Integer> stats = new TreeMap<>();
    int calls = 0;

    ModelRuns(long seed) {
        g = new G(seed);
        mk = new Maker(g);
        isBusy = seed % 3 == 1;
    }

    void same(String call, long got, long want) {
        calls++;
        if (trace.length() < 3000000) trace.append(call).append(" = ").append(want).append("\n");
        if (got != want) throw new Bad(call + " answered " + got + ", model says " + want);
        int p = call.indexOf('(');
        String key = call.substring(0, p) + (want < 0 ? want : want == 0 ? "=0" : "+");
        stats.merge(key, 1, Integer::sum);
    }

    void tray(String s) {
        trace.append("TRAY ").append(s.replace("\n", "\\n")).append("\n");
        trayBytes(s.getBytes(StandardCharsets.ISO_8859_1));
    }

    void trayBytes(byte[] b) {
        same("end(0)", x.end(0), m.end(0));
        for (int i = 0; i < b.length; i += 20) {
            int[] v = new int[5];
            for (int k = 0; k < 20; k++) v[k / 4] = v[k / 4] << 8 | (i + k < b.length ? b[i + k] & 255 : 0);
            int r = x.feed(v[0], v[1], v[2], v[3], v[4]);
            if (r != m.feed(v)) throw new Bad("feed");
        }
        if (x.end(b.length) != m.end(b.length)) throw new Bad("end");
    }

    int obj() {
        int k = g.n(100);
        if (k >= 15) {
            List<Integer> a = m.aliveNow();
            if (!a.isEmpty()) return g.p(50) ? g.of(a) : a.get(Math.max(0, a.size() - 1 - g.n(8)));
        }
        if (k < 3) return g.any(0, -1, m.next, m.next + 5, 4000, 4001, 100000);
        if (m.next == 1) return 1;
        if (k < 60) {
            int from = Math.max(1, m.next - 12);
            return from + g.n(m.next - from);
        }
        return 1 + g.n(m.next - 1);
    }

    int objOf(String type) {
        List<Integer> c = new ArrayList<>();
        for (int t : m.aliveNow()) if (m.sub(m.info(t).type, type)) c.add(t);
        if (c.isEmpty() || g.p(5)) return g.p(50) ? 0 : obj();
        return g.of(c);
    }

    int type() {
        if (g.p(3)) return g.any(-1, m.types.size(), 500);
        return m.types.isEmpty() ? 0 : g.n(m.types.size());
    }

    long bits(int kind) {
        switch (kind) {
            case 0: return g.n(2);
            case 1: return (byte) g.r.nextInt();
            case 2: return g.p(50) ? g.n(10) : (short) g.r.nextInt();
            case 3: return g.p(50) ? 65 + g.n(10) : (char) g.r.nextInt();
            case 4: return g.p(70) ? g.n(7) - 2 : g.r.nextInt();
            case 5: return g.p(70) ? g.n(7) - 2 : g.r.nextLong();
            case 6: {
                long f = g.p(70) ? Float.floatToRawIntBits((g.n(20) - 8) / 4f) : g.any(0x80000000, 0x7F800000, 0xFF800000, 1, 0x7FFFFF, 0x7F7FFFFF, g.r.nextInt(), Float.floatToRawIntBits(-0.0f));
                return f & 0xFFFFFFFFL;
            }
            default: return g.p(70) ? Double.doubleToRawLongBits((g.n(20) - 8) / 4.0) : g.any(Long.MIN_VALUE, 0x7FF0000000000000L, 0xFFF0000000000000L, 1L, 0x000FFFFFFFFFFFFFL,
                g.r.nextLong(), Double.doubleToRawLongBits(-0.0), Double.doubleToRawLongBits(1e300), Double.doubleToRawLongBits(3e-310));
        }
    }

    /** A kind and bits that mostly suit a type. */
    long[] value(String t) {
        if (g.p(3)) return new long[] {g.n(12) - 1, g.any(0L, 1L, -1L, 300L, 70000L, 1L << 33, 0x7FF8000000000000L, 0x7FC00000L)};
        if (Model.plain(t)) {
            int k = Model.num(t);
            if (g.p(15)) k = g.n(8);
            return new long[] {k, bits(k)};
        }
        return new long[] {8, g.p(10) ? 0 : objOf(t)};
    }

    void argument(long[] v) {
        same("argument(" + v[0] + "," + v[1] + ")", x.argument((int) v[0], v[1]), m.argument((int) v[0], v[1]));
    }

    void fullCompare() {
        for (int k = -1; k <= m.types.size(); k++) {
            same("fields(" + k + ")", x.fields(k), m.fields(k));
            for (int i = -1; i < 5; i++) same("field(" + k + "," + i + ")", x.field(k, i), m.field(k, i));
            int j = type();
            same("fits(" + k + "," + j + ")", x.fits(k, j), m.fits(k, j));
        }
        for (int t = 0; t <= m.next && t < 400; t++) {
            same("alive(" + t + ")", x.alive(t) ? 1 : 0, m.alive(t));
            same("kindOf(" + t + ")", x.kindOf(t), m.kindOf(t));
            same("size(" + t + ")", x.size(t), m.size(t));
            if (m.isAlive(t)) for (int i = 0; i < Math.min(m.info(t).size, 20); i++) {
                same("get(" + t + "," + i + ")", x.get(t, i), m.get(t, i));
                same("element(" + t + "," + i + ")", x.element(t, i), m.element(t, i));
                same("letter(" + t + "," + i + ")", x.letter(t, i), m.letter(t, i));
            }
        }
        for (int i = 0; i < 16; i++) same("rootAt(" + i + ")", x.rootAt(i), m.rootAt(i));
    }

    void compareLog() {
        same("logged()", x.logged(), m.logged());
        for (int i = -1; i <= m.log.length; i++) if (x.logAt(i) != m.logAt(i)) throw new Bad("logAt(" + i + ") " + x.logAt(i) + " " + m.logAt(i));
    }

    void compareTold() {
        same("place()", x.place(), m.place());
        same("clash()", x.clash(), m.clash());
        same("code()", x.code(), m.code());
        same("answered()", x.answered(), m.answered());
        same("steps()", x.steps(), m.steps());
        same("newest()", x.newest(), m.newest());
        same("kinds()", x.kinds(), m.kinds());
        for (int r = -1; r <= m.answerRows.size() && r < 60; r++) for (int c = -1; c < 5; c++) if (x.answer(r, c) != m.answer(r, c)) throw new Bad("answer(" + r + "," + c + ") " + x.answer(r, c) + " " + m.answer(r, c));
        for (int c = -1; c < 5; c++) same("answerKind(" + c + ")", x.answerKind(c), m.answerKind(c));
        for (int n = -1; n <= m.found.size(); n++) if (x.found(n) != m.found(n)) throw new Bad("found(" + n + ")");
        for (int n = -1; n <= m.graph.length; n++) if (x.at(n) != m.at(n)) throw new Bad("at(" + n + ")");
        for (int n = -1; n <= m.rows.size(); n++) for (int w = -1; w < 6; w++) if (x.row(n, w) != m.row(n, w)) throw new Bad("row(" + n + "," + w + ") " + x.row(n, w) + " " + m.row(n, w));
    }

    void declare() {
        for (int n = 0; n < 12; n++) {
            mk.classes.clear();
            mk.signatures.clear();
            mk.inQuery = false;
            String s = mk.text();
            if (g.p(15)) s = mutate(g, s);
            if (g.p(1)) s = "";
            tray(s);
            int want = m.declare();
            same("declare()", x.declare(), want);
            same("place()", x.place(), m.place());
            same("kinds()", x.kinds(), m.kinds());
            if (want >= 0) {
                stats.merge("declared", 1, Integer::sum);
                return;
            }
        }
        mk.classes.clear();
        mk.signatures.clear();
        tray("class A{int a;A b;}");
        same("declare()", x.declare(), m.declare());
        Cls c = new Cls();
        c.sort = "class";
        c.name = "A";
        c.fields.add(new String[] {"int", "a"});
        c.fields.add(new String[] {"A", "b"});
        mk.classes.add(c);
    }

    void run(int ops) {
        if (g.p(10)) early();
        declare();
        if (!m.declared) return;
        for (int i = 0; i < ops; i++) op();
        if (m.opened()) fullCompare();
        compareTold();
        compareLog();
    }

    void early() {
        for (int i = 0; i < 10; i++) op();
    }

    void op() {
        int k = g.n(100);
        if (!m.changing() && g.p(50) && !m.closed) {
            same("begin()", x.begin(), m.begin());
            return;
        }
        if (isBusy && m.opened() && g.p(30)) {
            busyOp();
        } else if (k < 14) {
            List<Integer> c = new ArrayList<>();
            for (int i = 10; i < m.types.size(); i++) if (m.decl(m.types.get(i)) != null && m.decl(m.types.get(i)).sort.equals("class")) c.add(i);
            int t = c.isEmpty() || g.p(5) ? type() : g.of(c);
            same("make(" + t + ")", x.make(t), m.make(t));
        } else if (k < 22) {
            int t = type();
            int n = g.p(90) ? g.n(6) : g.any(-1, 400, 401, 0, 100);
            same("array(" + t + "," + n + ")", x.array(t, n), m.array(t, n));
        } else if (k < 26) {
            record();
        } else if (k < 48) {
            write1();
        } else if (k < 53) {
            int a = obj();
            int b = obj();
            List<Integer> arrays = new ArrayList<>();
            for (int t : m.aliveNow()) if (m.isArray(t)) arrays.add(t);
            if (!arrays.isEmpty() && g.p(90)) {
                a = g.of(arrays);
                List<Integer> alike = new ArrayList<>();
                for (int t : arrays) if (m.info(t).type.equals(m.info(a).type) || Model.ref(m.slot(t, 0)) && Model.ref(m.slot(a, 0))) alike.add(t);
                b = g.p(90) ? g.of(alike) : g.of(arrays);
            }
            int i = g.n(4) - (g.p(5) ? 1 : 0);
            int j = g.n(4) - (g.p(5) ? 1 : 0);
            int n = g.p(5) ? g.any(-1, 2147483647, 400) : g.n(4);
            if (g.p(30)) same("cloned(" + a + ")", x.cloned(a), m.cloned(a));
            else same("copy(" + a + "," + i + "," + b + "," + j + "," + n + ")", x.copy(a, i, b, j, n), m.copy(a, i, b, j, n));
        } else if (k < 57) {
            int i = g.n(16) + (g.p(5) ? g.any(16, -17) : 0);
            int t = g.p(15) ? 0 : obj();
            if (g.p(70)) same("root(" + i + "," + t + ")", x.root(i, t), m.root(i, t));
            else same("rootAt(" + i + ")", x.rootAt(i), m.rootAt(i));
        } else if (k < 61) {
            int t = obj();
            int i = g.n(5) - (g.p(10) ? 1 : 0);
            same("get(" + t + "," + i + ")", x.get(t, i), m.get(t, i));
            same("code()", x.code(), m.code());
            same("element(" + t + "," + i + ")", x.element(t, i), m.element(t, i));
            same("code()", x.code(), m.code());
        } else if (k < 69) {
            call();
        } else if (k < 76) {
            ask();
        } else if (k < 79) {
            text();
        } else if (k < 85) {
            act();
        } else if (k < 92) {
            graph();
        } else if (k < 95) {
            range();
        } else if (k < 97) {
            kinds();
        } else if (k < 98) {
            int v = g.p(70) && !m.versions.isEmpty() ? m.versions.lastKey() - g.n(3) : g.n(10) - 1;
            same("sweep(" + v + ")", x.sweep(v), m.sweep(v));
        } else if (k < 99) {
            if (g.p(40)) crash();
        } else {
            if (g.p(30)) compareTold();
            if (g.p(10)) fullCompare();
            if (g.p(10)) compareLog();
            if (g.p(20)) same("declare()", x.declare(), m.declare());
            if (g.p(20)) same("place()", x.place(), m.place());
        }
    }

    void busyOp() {
        int v = m.versions.lastKey() - (g.p(70) ? 0 : g.n(3));
        switch (g.n(12)) {
            case 0: case 1:
                same("sweep(" + v + ")", x.sweep(v), m.sweep(v));
                break;
            case 2:
                if (g.p(40)) crash();
                break;
            case 3:
                same("view(" + v + ")", x.view(v) ? 1 : 0, m.view(v));
                break;
            case 4: case 5: {
                int i = g.n(4);
                int t = obj();
                same("root(" + i + "," + t + ")", x.root(i, t), m.root(i, t));
                break;
            }
            case 6:
                same("rootAt(0)", x.rootAt(0), m.rootAt(0));
                break;
            default:
                act();
        }
    }

    void record() {
        List<Integer> c = new ArrayList<>();
        for (int i = 10; i < m.types.size(); i++) if (m.decl(m.types.get(i)) != null && m.decl(m.types.get(i)).sort.equals("record")) c.add(i);
        int t = c.isEmpty() || g.p(5) ? type() : g.of(c);
        if (!m.args.isEmpty() && g.p(50)) same("record(" + t + ")", x.record(t), m.record(t));
        if (t >= 0 && t < m.types.size()) for (Model.Member f : m.fieldsOf(m.decl(m.types.get(t)))) argument(value(f.rt));
        if (g.p(3)) argument(value("I"));
        same("record(" + t + ")", x.record(t), m.record(t));
    }

    void write1() {
        int t = obj();
        for (int n = 0; n < 5 && !(m.isAlive(t) && m.hasCells(t)); n++) t = obj();
        boolean alive = m.isAlive(t);
        int size = alive ? m.info(t).size : 3;
        int i = size == 0 || g.p(4) ? g.n(4) - 1 : g.n(size);
        String type = alive && m.hasCells(t) && size > 0 ? m.slot(t, Math.min(Math.max(i, 0), size - 1)) : "I";
        long[] v = value(type);
        boolean isArray = alive && m.isArray(t);
        if (g.p(3)) isArray = !isArray;
        String a = "(" + t + "," + i + "," + v[0] + "," + v[1] + ")";
        if (isArray) same("set" + a, x.set(t, i, (int) v[0], v[1]), m.set(t, i, (int) v[0], v[1]));
        else same("put" + a, x.put(t, i, (int) v[0], v[1]), m.put(t, i, (int) v[0], v[1]));
    }

    int limit() { return g.p(70) ? g.any(100, 1000, 3000) : g.p(90) ? g.n(30) : g.any(-1, 100001, 0, 1); }

    void call() {
        int t = obj();
        for (int n = 0; n < 12 && !(m.isAlive(t) && m.hasFields(t) && !mk.methodsOf(m.decl(m.info(t).type).name.s).isEmpty()); n++) t = obj();
        List<String> names = new ArrayList<>(List.of("nope", "length", "f"));
        if (m.isAlive(t) && m.decl(m.info(t).type) != null) {
            List<String> all = new ArrayList<>(mk.methodsOf(m.decl(m.info(t).type).name.s));
            if (!all.isEmpty() && g.p(95)) names = all;
        }
        String n = g.of(names);
        String[] s = mk.signatures.get(n);
        if (!m.args.isEmpty()) same("record(-1)", x.record(-1), m.record(-1));
        if (s != null) for (int i = 1; i < s.length; i++) argument(value(descriptor(s[i])));
        if (g.p(2)) argument(value("I"));
        tray(n);
        int steps = limit();
        same("call(" + t + "," + steps + ")", x.call(t, steps), m.call(t, steps));
        same("answered()", x.answered(), m.answered());
        same("steps()", x.steps(), m.steps());
    }

    String descriptor(String t) {
        int dims = 0;
        while (t.endsWith("[]")) {
            t = t.substring(0, t.length() - 2);
            dims++;
        }
        int i = Arrays.asList(PLAIN).indexOf(t);
        return "[".repeat(dims) + (i >= 0 ? "" + Model.LETTERS.charAt(i) : "L" + t + ";");
    }

    void ask() {
        String q = mk.query();
        if (g.p(15)) q = mutate(g, q);
        tray(q);
        int steps = limit();
        same("ask(" + steps + ")", x.ask(steps), m.ask(steps));
        same("place()", x.place(), m.place());
        same("steps()", x.steps(), m.steps());
        for (int c = -1; c < 5; c++) same("answerKind(" + c + ")", x.answerKind(c), m.answerKind(c));
        for (int r = 0; r < m.answerRows.size(); r++) for (int c = 0; c < 4; c++) if (x.answer(r, c) != m.answer(r, c)) throw new Bad("answer(" + r + "," + c + ") " + x.answer(r, c) + " " + m.answer(r, c));
    }

    void text() {
        tray(g.any("", "a", "abc", "b", "hello", "t" + g.n(8), "x\ny", "\u0080", "~ ", "y".repeat(g.any(999, 1000, 1001))));
        same("text()", x.text(), m.text());
        int t = obj();
        int i = g.n(4) - 1;
        same("letter(" + t + "," + i + ")", x.letter(t, i), m.letter(t, i));
        int k = type();
        same("constant(" + k + "," + i + ")", x.constant(k, i), m.constant(k, i));
    }

    int tx() {
        if (!m.txs.isEmpty() && g.p(95)) return g.of(new ArrayList<>(m.txs.keySet()));
        return g.n(6);
    }

    void act() {
        int n = tx();
        switch (g.n(7)) {
            case 0: case 1: case 2:
                same("keep(" + n + ")", x.keep(n), m.keep(n));
                same("clash()", x.clash(), m.clash());
                same("newest()", x.newest(), m.newest());
                if (g.p(20)) compareLog();
                break;
            case 3:
                if (g.p(60)) same("begin()", x.begin(), m.begin());
                else same("drop(" + n + ")", x.drop(n) ? 1 : 0, m.drop(n));
                break;
            case 4:
                int v = g.p(80) && !m.versions.isEmpty() ? m.versions.lastKey() - g.n(2) : g.n(6) - 1;
                same("view(" + v + ")", x.view(v) ? 1 : 0, m.view(v));
                break;
            default:
                same("use(" + n + ")", x.use(n) ? 1 : 0, m.use(n));
        }
    }

    void graph() {
        int t = obj();
        switch (g.n(7)) {
            case 0: case 1:
                same("write(" + t + ")", x.write(t), m.write(t));
                for (int n = -1; n <= m.graph.length; n++) if (x.at(n) != m.at(n)) throw new Bad("at(" + n + ")");
                break;
            case 2: case 3:
                byte[] b = m.graph.clone();
                if (b.length > 6 && g.p(40)) {
                    int n = 1 + g.n(2);
                    for (int i = 0; i < n; i++) b[g.n(b.length - 4)] = (byte) (g.p(50) ? g.n(8) : g.n(256));
                    if (g.p(20)) b = Arrays.copyOf(b, Math.max(5, b.length - g.n(4)));
                    if (g.p(10)) b = Arrays.copyOf(b, b.length + g.n(4));
                    if (g.p(90)) java.nio.ByteBuffer.wrap(b).putInt(b.length - 4, Model.crc(b, b.length - 4));
                }
                if (g.p(2)) b = Arrays.copyOf(b, Math.min(b.length, g.n(10)));
                trayBytes(b);
                trace.append("GRAPH ").append(Arrays.toString(b)).append("\n");
                same("read()", x.read(), m.read());
                same("place()", x.place(), m.place());
                break;
            case 4: {
                int u = g.p(60) && m.isAlive(t) ? objOf(m.info(t).type) : obj();
                same("same(" + t + "," + u + ")", x.same(t, u), m.same(t, u));
                break;
            }
            case 5: {
                int u = g.p(90) && m.isAlive(t) ? objOf(m.info(t).type) : obj();
                same("patch(" + t + "," + u + ")", x.patch(t, u), m.patch(t, u));
                for (int n = -1; n <= m.rows.size(); n++) for (int w = -1; w < 6; w++) if (x.row(n, w) != m.row(n, w)) throw new Bad("row(" + n + "," + w + ") " + x.row(n, w) + " " + m.row(n, w));
                if (g.p(50)) {
                    same("apply()", x.apply(), m.apply());
                    if (m.viewed() && !m.gone(t) && !m.gone(u) && t != 0 && u != 0) same("same(" + t + "," + u + ")", x.same(t, u), m.same(t, u));
                }
                break;
            }
            default:
                same("apply()", x.apply(), m.apply());
        }
    }

    void range() {
        List<Integer> c = new ArrayList<>();
        for (int i = 10; i < m.types.size(); i++) if (!m.fieldsOf(m.decl(m.types.get(i))).isEmpty()) c.add(i);
        int k = c.isEmpty() || g.p(5) ? type() : g.of(c);
        int n = k >= 0 && k < m.types.size() ? m.fieldsOf(m.decl(m.types.get(k))).size() : 0;
        int i = n == 0 || g.p(5) ? g.n(4) - 1 : g.n(n);
        String t = n > 0 && i >= 0 && i < n ? m.fieldsOf(m.decl(m.types.get(k))).get(i).rt : "I";
        long low = Model.plain(t) ? bits(Model.num(t)) : 0;
        long high = Model.plain(t) ? bits(Model.num(t)) : 0;
        if (g.p(3)) low = 0x7FF8000000000001L;
        same("range(" + k + "," + i + "," + low + "," + high + ")", x.range(k, i, low, high), m.range(k, i, low, high));
        for (int j = -1; j <= m.found.size(); j++) if (x.found(j) != m.found(j)) throw new Bad("found(" + j + ")");
    }

    void kinds() {
        String d = g.any("I", "[I", "[[Z", "LA;", "[LA;", "[[[LText;", "[[[[[[[[J", "[[[[[[[[[J", "LObject;", "[LObject;", "LZ;", "X", "", "[", "L;", "[[[[[[[[[X", "ZZ");
        tray(d);
        same("kind()", x.kind(), m.kind());
        int k = type();
        int j = type();
        same("fits(" + k + "," + j + ")", x.fits(k, j), m.fits(k, j));
        tray(g.any("a0", "b0", "a1", "a", "", "nope", "int"));
        same("named(" + k + ")", x.named(k), m.named(k));
        same("kinds()", x.kinds(), m.kinds());
    }

    void crash() {
        int n = g.p(50) ? 100000 : g.n(60) - 1;
        same("crash(" + n + ")", x.crash(n) ? 1 : 0, m.crash(n));
        compareTold();
        for (int i = 0; i < g.n(4); i++) if (!m.closed || g.p(100)) closedOp();
        if (g.p(20) && m.log.length > 0) {
            int i = g.p(80) ? g.n(m.log.length) : g.any(-1, m.log.length);
            int mask = g.n(256);
            same("poke(" + i + "," + mask + ")", x.poke(i, mask) ? 1 : 0, m.poke(i, mask));
            if (g.p(20)) same("poke(" + i + "," + mask + ")", x.poke(i, mask) ? 1 : 0, m.poke(i, mask));
        }
        compareLog();
        same("reopen()", x.reopen(), m.reopen());
        compareLog();
        compareTold();
        if (m.opened()) {
            same("view()", x.view(m.versions.lastKey()) ? 1 : 0, m.view(m.versions.lastKey()));
            fullCompare();
        }
    }

    void closedOp() {
        switch (g.n(12)) {
            case 0: same("begin()", x.begin(), m.begin()); break;
            case 1: same("kinds()", x.kinds(), m.kinds()); break;
            case 2: same("make(10)", x.make(10), m.make(10)); break;
            case 3: argument(new long[] {4, 5}); break;
            case 4: same("fits(1,2)", x.fits(1, 2), m.fits(1, 2)); break;
            case 5: same("text()", x.text(), m.text()); break;
            case 6: same("crash(5)", x.crash(5) ? 1 : 0, m.crash(5)); break;
            case 7: same("get(1,0)", x.get(1, 0), m.get(1, 0)); same("code()", x.code(), m.code()); break;
            case 8: same("alive(1)", x.alive(1) ? 1 : 0, m.alive(1)); break;
            case 9: same("sweep(0)", x.sweep(0), m.sweep(0)); break;
            case 10: same("ask(5)", x.ask(5), m.ask(5)); break;
            default: same("call(1,5)", x.call(1, 5), m.call(1, 5)); break;
        }
    }

    public static void main(String[] args) {
        long from = args.length > 0 ? Long.parseLong(args[0]) : 1;
        long to = args.length > 1 ? Long.parseLong(args[1]) : 300;
        int ops = args.length > 2 ? Integer.parseInt(args[2]) : 120;
        int bad = 0;
        for (long seed = from; seed <= to && bad < 5; seed++) {
            ModelRuns f = new ModelRuns(seed);
            try {
                f.run(ops);
            } catch (RuntimeException e) {
                bad++;
                System.out.println("seed " + seed + ": " + e);
                if (!(e instanceof Bad)) e.printStackTrace(System.out);
                String t = f.trace.toString();
                System.out.println(t.substring(Math.max(0, t.length() - 2500)));
            }
        }
        if (args.length > 3) System.out.println(stats);
        System.out.println("ModelRuns: " + (bad == 0 ? "program and model agree on " + (to - from + 1) + " runs" : bad + " runs differ"));
        if (bad != 0) System.exit(1);
    }
}
