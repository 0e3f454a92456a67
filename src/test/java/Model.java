import java.io.*;
import java.nio.charset.StandardCharsets;
import java.util.*;
import java.util.regex.*;

/** The document once more, in the plainest Java, for comparison: versions are whole copies, expressions are trees. */
final class Model {
    // ---------- tokens
    static final class Tok {
        String kind;
        String s;
        int at;
        long v;

        boolean is(String x) { return (kind.equals("sym") || kind.equals("kw")) && s.equals(x); }
    }

    static final class Err extends RuntimeException {
        final int at;
        Err(int at) { super(null, null, false, false); this.at = at; }
    }

    static final class Fail extends RuntimeException {
        final int code;
        Fail(int code) { super(null, null, false, false); this.code = code; }
    }

    static final Set<String> KEYWORDS = Set.of(("abstract class extends implements interface default enum record return boolean byte short char int long float double "
        + "true false null this instanceof in from where order down give exists all count sum").split(" "));
    static final List<String> PLAIN = List.of("boolean", "byte", "short", "char", "int", "long", "float", "double");
    static final String LETTERS = "ZBSCIJFD";
    static final Pattern TOKEN = Pattern.compile("(?<name>[A-Za-z_][A-Za-z0-9_]*)|(?<dbl>[0-9]+\\.[0-9]+)|(?<lng>[0-9]+L)|(?<num>[0-9]+)"
        + "|(?<chr>'[ -&(-\\[\\]-~]')|(?<txt>\"[ !#-\\[\\]-~]*\")|(?<sym>>>>|<<|>>|<=|>=|==|!=|&&|\\|\\||[{}()\\[\\],;.?:=+\\-*/%<>!~&^|])");

    static List<Tok> lex(String text) {
        List<Tok> out = new ArrayList<>();
        int i = 0;
        Matcher m = TOKEN.matcher(text);
        while (true) {
            while (i < text.length() && " \t\n\r".indexOf(text.charAt(i)) >= 0) i++;
            Tok t = new Tok();
            t.at = i;
            out.add(t);
            if (i >= text.length()) {
                t.kind = "end";
                return out;
            }
            t.kind = "bad";
            m.region(i, text.length());
            if (!m.lookingAt()) return out;
            t.s = m.group();
            java.math.BigInteger big;
            if (m.group("name") != null) {
                if (t.s.length() > 30) return out;
                t.kind = KEYWORDS.contains(t.s) ? "kw" : "name";
            } else if (m.group("dbl") != null) {
                if (t.s.length() > 16) return out;
                int point = t.s.indexOf('.');
                double d = (double) Long.parseLong(t.s.replace(".", "")) / Math.pow(10, t.s.length() - point - 1);
                t.v = Double.doubleToRawLongBits(d);
                t.kind = "double";
            } else if (m.group("lng") != null) {
                big = new java.math.BigInteger(t.s.substring(0, t.s.length() - 1));
                if (big.bitLength() > 63) return out;
                t.v = big.longValue();
                t.kind = "long";
            } else if (m.group("num") != null) {
                big = new java.math.BigInteger(t.s);
                if (big.bitLength() > 31) return out;
                t.v = big.longValue();
                t.kind = "int";
            } else if (m.group("chr") != null) {
                t.v = t.s.charAt(1);
                t.kind = "char";
            } else if (m.group("txt") != null) {
                t.s = t.s.substring(1, t.s.length() - 1);
                if (t.s.length() > 100) return out;
                t.kind = "text";
            } else {
                t.kind = "sym";
            }
            i = m.end();
        }
    }

    // ---------- grammar
    static final class TypeRef {
        String base;
        int dims;
        int at;
    }

    static final class Ex {
        String op;
        Tok tok;
        String name;
        TypeRef type;
        List<Ex> kids = new ArrayList<>();
        int firstAt;
        boolean single;
        // resolution
        String ty;
        String how;
        int number;

        int height() {
            int h = 0;
            for (Ex k : kids) h = Math.max(h, k.height());
            return h + 1;
        }
    }

    static final class Param {
        TypeRef type;
        Tok name;
    }

    static final class Member {
        boolean method;
        String word = "";
        Tok first;
        TypeRef type;
        Tok name;
        List<Param> params = new ArrayList<>();
        Ex body;
        Tok ret;
        Decl owner;
        String rt;
        List<String> pts = new ArrayList<>();

        String signature() { return rt + pts; }
    }

    static final class Decl {
        String sort;
        Tok name;
        Tok parent;
        List<Tok> faces = new ArrayList<>();
        List<Member> members = new ArrayList<>();
        List<Tok> constants = new ArrayList<>();
        Decl up;
        Set<Decl> above = new LinkedHashSet<>();
        List<Decl> directFaces = new ArrayList<>();

        String d() { return "L" + name.s + ";"; }
        Member own(String n) {
            for (Member m : members) if (m.method && m.name.s.equals(n)) return m;
            return null;
        }
    }

    static final class Parser {
        final List<Tok> t;
        int i = 0;
        final Set<String> classNames;
        final List<TypeRef> types = new ArrayList<>();

        Parser(List<Tok> t, Set<String> classNames) {
            this.t = t;
            this.classNames = classNames;
        }

        Tok cur() { return t.get(i); }
        Tok peek(int n) { return t.get(Math.min(i + n, t.size() - 1)); }
        Err err() { return new Err(cur().at); }
        Tok next() { return t.get(i++); }
        boolean is(String s) { return cur().is(s); }
        Tok need(String s) {
            if (!is(s)) throw err();
            return next();
        }
        Tok name() {
            if (!cur().kind.equals("name")) throw err();
            return next();
        }

        boolean typeStart(Tok k) { return k.kind.equals("kw") && PLAIN.contains(k.s) || k.kind.equals("name"); }

        TypeRef type() {
            if (!typeStart(cur())) throw err();
            TypeRef r = new TypeRef();
            r.at = cur().at;
            r.base = next().s;
            while (is("[")) {
                if (r.dims == 8) throw err();
                next();
                need("]");
                r.dims++;
            }
            types.add(r);
            return r;
        }

        List<Decl> text() {
            List<Decl> out = new ArrayList<>();
            while (!cur().kind.equals("end")) {
                if (out.size() == 60) throw err();
                out.add(decl());
            }
            return out;
        }

        Decl decl() {
            Decl d = new Decl();
            if (is("abstract")) {
                next();
                need("class");
                d.sort = "abstract";
            } else if (is("class") || is("interface") || is("enum") || is("record")) {
                d.sort = next().s;
            } else {
                throw err();
            }
            d.name = name();
            switch (d.sort) {
                case "class", "abstract" -> {
                    if (is("extends")) {
                        next();
                        d.parent = name();
                    }
                    if (is("implements")) {
                        next();
                        names(d.faces);
                    }
                    need("{");
                    while (!is("}")) member(d, true);
                    next();
                }
                case "interface" -> {
                    if (is("extends")) {
                        next();
                        names(d.faces);
                    }
                    need("{");
                    while (!is("}")) member(d, false);
                    next();
                }
                case "enum" -> {
                    need("{");
                    do {
                        if (d.constants.size() == 40) throw err();
                        d.constants.add(name());
                    } while (comma());
                    need("}");
                }
                default -> {
                    need("(");
                    if (!is(")")) {
                        do {
                            Member m = new Member();
                            m.first = cur();
                            m.type = type();
                            m.name = name();
                            m.owner = d;
                            d.members.add(m);
                        } while (comma());
                    }
                    need(")");
                    if (is("implements")) {
                        next();
                        names(d.faces);
                    }
                    need("{");
                    while (!is("}")) member(d, false);
                    next();
                }
            }
            return d;
        }

        boolean comma() {
            if (!is(",")) return false;
            next();
            return true;
        }

        void names(List<Tok> out) {
            do out.add(name()); while (comma());
        }

        void member(Decl d, boolean fields) {
            Member m = new Member();
            m.owner = d;
            m.first = cur();
            int count = 0;
            for (Member o : d.members) if (o.method) count++;
            boolean full = count == 20 && !d.sort.equals("interface");
            if (is("abstract") || is("default")) m.word = next().s;
            if (full && (!fields || !m.word.isEmpty())) throw new Err(m.first.at);
            m.type = type();
            m.name = name();
            if (fields && m.word.isEmpty() && is(";")) {
                next();
                d.members.add(m);
                return;
            }
            if (full && is("(")) throw new Err(m.first.at);
            need("(");
            m.method = true;
            if (!is(")")) {
                do {
                    if (m.params.size() == 8) throw err();
                    Param p = new Param();
                    p.type = type();
                    p.name = name();
                    m.params.add(p);
                } while (comma());
            }
            need(")");
            if (is(";")) {
                next();
            } else {
                need("{");
                m.ret = need("return");
                m.body = expr(1);
                need(";");
                need("}");
            }
            d.members.add(m);
        }

        void depth(int d) {
            if (d > 30) throw err();
        }

        Ex node(String op, Tok tok, Ex... kids) {
            Ex e = new Ex();
            e.op = op;
            e.tok = tok;
            e.kids.addAll(List.of(kids));
            return e;
        }

        Ex expr(int d) {
            depth(d);
            int at = cur().at;
            Ex e;
            if (is("exists") || is("all") || is("count") || is("sum")) {
                Tok q = next();
                depth(d + 1);
                Tok n = name();
                need("in");
                Ex s = source(d + 1);
                need(":");
                Ex b = expr(d + 1);
                e = node(q.s, n, s, b);
                e.name = n.s;
            } else {
                e = binary(d, 0);
                if (is("?")) {
                    Tok q = next();
                    Ex x = expr(d + 1);
                    need(":");
                    Ex y = expr(d + 1);
                    e = node("?", q, e, x, y);
                }
            }
            e.firstAt = at;
            return e;
        }

        Ex source(int d) {
            int from = i;
            int at = cur().at;
            Ex s = unary(d);
            s.firstAt = at;
            s.single = i == from + 1 && s.op.equals("name");
            return s;
        }

        static final List<List<String>> LEVELS = List.of(List.of("||"), List.of("&&"), List.of("|"), List.of("^"), List.of("&"), List.of("==", "!="),
            List.of("<", ">", "<=", ">="), List.of("<<", ">>", ">>>"), List.of("+", "-"), List.of("*", "/", "%"));

        Ex binary(int d, int level) {
            if (level == 10) return unary(d);
            Ex left = binary(d, level + 1);
            if (level == 6 && is("instanceof")) {
                Tok q = next();
                Ex e = node("instanceof", q, left);
                e.type = type();
                return e;
            }
            while (cur().kind.equals("sym") && LEVELS.get(level).contains(cur().s)) {
                Tok q = next();
                Ex right = binary(d, level + 1);
                left = node("bin", q, left, right);
            }
            return left;
        }

        Ex unary(int d) {
            depth(d);
            if (is("-") || is("!") || is("~")) {
                Tok q = next();
                return node("un", q, unary(d + 1));
            }
            if (is("(")) {
                Tok n = peek(1);
                if (n.kind.equals("kw") && PLAIN.contains(n.s) || n.kind.equals("name") && classNames.contains(n.s)) {
                    Tok q = next();
                    depth(d + 1);
                    TypeRef r = type();
                    need(")");
                    Ex e = node("cast", q, unary(d + 1));
                    e.type = r;
                    return e;
                }
            }
            return postfix(d);
        }

        void args(Ex e, int d) {
            need("(");
            if (!is(")")) {
                do e.kids.add(expr(d + 1)); while (comma());
            }
            need(")");
        }

        Ex postfix(int d) {
            Ex e = primary(d);
            while (true) {
                if (is(".")) {
                    next();
                    Tok n = name();
                    if (is("(")) {
                        e = node("call", n, e);
                        args(e, d);
                    } else {
                        e = node("field", n, e);
                    }
                    e.name = n.s;
                } else if (is("[")) {
                    Tok q = next();
                    Ex x = expr(d + 1);
                    need("]");
                    e = node("index", q, e, x);
                } else {
                    return e;
                }
            }
        }

        Ex primary(int d) {
            Tok k = cur();
            switch (k.kind) {
                case "int", "long", "double", "char", "text":
                    next();
                    return node("lit", k);
                case "name":
                    next();
                    Ex e = node(is("(") ? "self" : "name", k);
                    e.name = k.s;
                    if (is("(")) args(e, d);
                    return e;
                default:
            }
            if (is("true") || is("false") || is("null")) return node("lit", next());
            if (is("this")) return node("this", next());
            need("(");
            Ex e = expr(d + 1);
            need(")");
            return e;
        }
    }

    static final class Query {
        List<Tok> names = new ArrayList<>();
        List<Ex> sources = new ArrayList<>();
        Ex where;
        Ex order;
        boolean down;
        List<Ex> give = new ArrayList<>();
    }

    static Query query(Parser p) {
        Query q = new Query();
        p.need("from");
        do {
            if (q.names.size() == 3) throw p.err();
            q.names.add(p.name());
            p.need("in");
            q.sources.add(p.source(1));
        } while (p.comma());
        if (p.is("where")) {
            p.next();
            q.where = p.expr(1);
        }
        if (p.is("order")) {
            p.next();
            q.order = p.expr(1);
            if (p.is("down")) {
                p.next();
                q.down = true;
            }
        }
        p.need("give");
        do {
            if (q.give.size() == 4) throw p.err();
            q.give.add(p.expr(1));
        } while (p.comma());
        if (!p.cur().kind.equals("end")) throw p.err();
        return q;
    }

    // ---------- types
    List<String> types = new ArrayList<>();
    int textTypes;
    Map<String, Decl> decls = new LinkedHashMap<>();
    Set<String> classNames = new HashSet<>();
    List<String> classTexts = new ArrayList<>();

    static boolean plain(String t) { return t.length() == 1 && LETTERS.contains(t); }
    static int num(String t) { return LETTERS.indexOf(t); }
    static boolean isNumber(String t) { return plain(t) && !t.equals("Z"); }
    static boolean isInteger(String t) { return isNumber(t) && num(t) <= 5; }
    static boolean ref(String t) { return !plain(t); }
    static final String OBJ = "LObject;";
    static final String TXT = "LText;";
    static final String NUL = "0";

    Decl decl(String t) { return t.startsWith("L") ? decls.get(t.substring(1, t.length() - 1)) : null; }

    boolean sub(String a, String b) {
        if (!ref(a) || !ref(b)) return false;
        if (a.equals(b) || b.equals(OBJ)) return true;
        if (a.startsWith("[") && b.startsWith("[")) return sub(a.substring(1), b.substring(1));
        Decl x = decl(a);
        Decl y = decl(b);
        return x != null && y != null && x.above.contains(y);
    }

    static boolean widens(String a, String b) {
        if (!plain(a) || !plain(b)) return false;
        return switch (a) {
            case "B" -> "SIJFD".contains(b);
            case "S", "C" -> "IJFD".contains(b);
            case "I" -> "JFD".contains(b);
            case "J" -> "FD".contains(b);
            case "F" -> "D".contains(b);
            default -> false;
        };
    }

    boolean fitsType(String a, String b) {
        if (a.equals(NUL)) return ref(b);
        return a.equals(b) || widens(a, b) || sub(a, b);
    }

    boolean castable(String a, String b) {
        if (sub(a, b) || sub(b, a)) return true;
        return iface(a) && open(b) || iface(b) && open(a);
    }

    boolean iface(String t) { return decl(t) != null && decl(t).sort.equals("interface"); }
    boolean open(String t) { return decl(t) != null && (iface(t) || decl(t).sort.equals("class") || decl(t).sort.equals("abstract")); }

    String base(String name) {
        int i = PLAIN.indexOf(name);
        if (i >= 0) return LETTERS.substring(i, i + 1);
        if (name.equals("Object") || name.equals("Text") || decls.containsKey(name)) return "L" + name + ";";
        return null;
    }

    String resolve(TypeRef r) {
        String b = base(r.base);
        if (b == null) return null;
        String t = "[".repeat(r.dims) + b;
        return types.contains(t) ? t : null;
    }

    // ---------- declarations
    void check(List<Decl> ds, List<TypeRef> refs, List<Tok> toks) {
        decls.clear();
        types.clear();
        for (char c : LETTERS.toCharArray()) types.add("" + c);
        types.add(OBJ);
        types.add(TXT);
        for (Decl d : ds) {
            String n = d.name.s;
            if (decls.containsKey(n) || n.equals("Object") || n.equals("Text")) throw new Err(d.name.at);
            decls.put(n, d);
            types.add(d.d());
        }
        for (Decl d : ds) {
            if (d.parent != null && !d.parent.s.equals("Object")) {
                Decl p = decls.get(d.parent.s);
                if (p == null || !p.sort.equals("class") && !p.sort.equals("abstract")) throw new Err(d.parent.at);
                d.up = p;
            }
            for (Tok f : d.faces) {
                Decl p = decls.get(f.s);
                if (p == null || !p.sort.equals("interface") || d.directFaces.contains(p)) throw new Err(f.at);
                d.directFaces.add(p);
            }
        }
        for (Decl d : ds) {
            Deque<Decl> open = new ArrayDeque<>(d.directFaces);
            if (d.up != null) open.add(d.up);
            while (!open.isEmpty()) {
                Decl x = open.pop();
                if (d.above.add(x)) {
                    open.addAll(x.directFaces);
                    if (x.up != null) open.add(x.up);
                }
            }
        }
        for (Decl d : ds) if (d.above.contains(d)) throw new Err(d.name.at);
        refs.sort(Comparator.comparingInt(r -> r.at));
        for (TypeRef r : refs) {
            String b = base(r.base);
            if (b == null) continue;
            for (int n = 1; n <= r.dims && types.size() < 400; n++) {
                String t = "[".repeat(n) + b;
                if (!types.contains(t)) types.add(t);
            }
        }
        textTypes = types.size();
        for (Decl d : ds) members(d);
        for (Decl d : ds) {
            for (Member m : d.members) {
                if (!m.method) continue;
                for (Decl a : d.above) if (a.own(m.name.s) != null && !a.own(m.name.s).signature().equals(m.signature())) throw new Err(m.name.at);
            }
            Map<String, String> seen = new HashMap<>();
            for (Decl a : d.above) for (Member m : a.members) {
                if (!m.method) continue;
                String s = seen.putIfAbsent(m.name.s, m.signature());
                if (s != null && !s.equals(m.signature())) throw new Err(d.name.at);
            }
        }
        for (Decl d : ds) {
            if (!d.sort.equals("class") && !d.sort.equals("record")) continue;
            Set<Decl> all = new LinkedHashSet<>(d.above);
            all.add(d);
            for (Decl a : all) for (Member m : a.members) if (m.method && body(d, m.name.s) == null) throw new Err(d.name.at);
        }
        for (Decl d : ds) for (Member m : d.members) {
            if (!m.method || m.body == null) continue;
            if (m.body.height() > 30) throw new Err(m.ret.at);
            Scope sc = new Scope();
            sc.self = d.d();
            for (int i = 0; i < m.params.size(); i++) sc.params.put(m.params.get(i).name.s, m.pts.get(i));
            String t = type(m.body, sc);
            if (!fitsType(t, m.rt)) throw new Err(m.ret.at);
        }
    }

    void members(Decl d) {
        Set<String> names = new HashSet<>();
        for (Tok c : d.constants) if (!names.add(c.s)) throw new Err(c.at);
        List<Member> before = new ArrayList<>();
        for (Member m : d.members) {
            m.rt = resolve(m.type);
            if (m.rt == null) throw new Err(m.type.at);
            if (!m.method) {
                if (typeName(m.name.s)) throw new Err(m.name.at);
                int count = 0;
                for (Decl p = d.up; p != null; p = p.up) for (Member o : p.members) {
                    if (o.method) continue;
                    count++;
                    if (o.name.s.equals(m.name.s)) throw new Err(m.name.at);
                }
                for (Member o : before) {
                    if (o.method) continue;
                    count++;
                    if (o.name.s.equals(m.name.s)) throw new Err(m.name.at);
                }
                if (count >= 40) throw new Err(m.name.at);
            } else {
                Set<String> ps = new HashSet<>();
                for (Param p : m.params) {
                    String t = resolve(p.type);
                    if (t == null) throw new Err(p.type.at);
                    if (typeName(p.name.s) || !ps.add(p.name.s)) throw new Err(p.name.at);
                    m.pts.add(t);
                }
                for (Member o : before) if (o.method && o.name.s.equals(m.name.s)) throw new Err(m.name.at);
                boolean ok = switch (d.sort) {
                    case "interface" -> m.word.isEmpty() && m.body == null || m.word.equals("default") && m.body != null;
                    case "record", "class" -> m.word.isEmpty() && m.body != null;
                    default -> m.word.isEmpty() && m.body != null || m.word.equals("abstract") && m.body == null;
                };
                if (!ok) throw new Err(m.first.at);
            }
            before.add(m);
        }
    }

    boolean typeName(String n) { return n.equals("Object") || n.equals("Text") || decls.containsKey(n); }

    Member body(Decl d, String n) {
        for (Decl p = d; p != null; p = p.up) if (p.own(n) != null) return p.own(n).body == null ? null : p.own(n);
        List<Member> found = new ArrayList<>();
        for (Decl a : d.above) {
            if (!a.sort.equals("interface") || a.own(n) == null || a.own(n).body == null) continue;
            boolean hidden = false;
            for (Decl o : d.above) if (o.sort.equals("interface") && o.above.contains(a) && o.own(n) != null && o.own(n).body != null) hidden = true;
            if (!hidden) found.add(a.own(n));
        }
        return found.size() == 1 ? found.get(0) : null;
    }

    Member meant(Decl d, String n) {
        for (Decl p = d; p != null; p = p.up) if (p.own(n) != null) return p.own(n);
        for (Decl a : d.above) if (a.own(n) != null) return a.own(n);
        return null;
    }

    List<Member> fieldsOf(Decl d) {
        List<Member> out = new ArrayList<>();
        if (d == null || d.sort.equals("enum") || d.sort.equals("interface")) return out;
        if (d.up != null) out.addAll(fieldsOf(d.up));
        for (Member m : d.members) if (!m.method) out.add(m);
        return out;
    }

    int fieldIndex(String t, String n) {
        List<Member> fs = fieldsOf(decl(t));
        for (int i = 0; i < fs.size(); i++) if (fs.get(i).name.s.equals(n)) return i;
        return -1;
    }

    // ---------- types of expressions
    static final class Scope {
        String self;
        Map<String, String> params = new HashMap<>();
        Deque<String[]> names = new ArrayDeque<>();

        String var(String n) {
            for (String[] s : names) if (s[0].equals(n)) return s[1];
            return params.get(n);
        }
    }

    String promote(String a) { return num(a) < 4 ? "I" : a; }
    String promote(String a, String b) { return LETTERS.substring(Math.max(4, Math.max(num(a), num(b))), Math.max(4, Math.max(num(a), num(b))) + 1); }

    String type(Ex e, Scope s) {
        e.ty = type0(e, s);
        return e.ty;
    }

    String type0(Ex e, Scope s) {
        int at = e.tok.at;
        switch (e.op) {
            case "lit":
                return switch (e.tok.kind) {
                    case "int" -> "I";
                    case "long" -> "J";
                    case "double" -> "D";
                    case "char" -> "C";
                    case "text" -> TXT;
                    default -> e.tok.s.equals("null") ? NUL : "Z";
                };
            case "this":
                if (s.self == null) throw new Err(at);
                return s.self;
            case "name": {
                if (s.var(e.name) != null) return s.var(e.name);
                int i = s.self == null ? -1 : fieldIndex(s.self, e.name);
                if (i < 0) throw new Err(at);
                e.how = "field";
                e.number = i;
                return fieldsOf(decl(s.self)).get(i).rt;
            }
            case "field": {
                Ex x = e.kids.get(0);
                if (x.op.equals("name") && s.var(x.name) == null && (s.self == null || fieldIndex(s.self, x.name) < 0)
                    && decls.containsKey(x.name) && decls.get(x.name).sort.equals("enum")) {
                    Decl d = decls.get(x.name);
                    for (int i = 0; i < d.constants.size(); i++) if (d.constants.get(i).s.equals(e.name)) {
                        e.how = "constant";
                        e.number = i;
                        return d.d();
                    }
                    throw new Err(at);
                }
                String t = type(x, s);
                if (t.startsWith("[") && e.name.equals("length")) {
                    e.how = "length";
                    return "I";
                }
                if (decl(t) != null && decl(t).sort.equals("enum") && e.name.equals("number")) {
                    e.how = "number";
                    return "I";
                }
                int i = fieldIndex(t, e.name);
                if (i < 0) throw new Err(at);
                e.how = "field";
                e.number = i;
                return fieldsOf(decl(t)).get(i).rt;
            }
            case "call":
            case "self": {
                List<String> ts = new ArrayList<>();
                for (Ex k : e.kids) ts.add(type(k, s));
                if (e.op.equals("self")) {
                    if (s.self == null) throw new Err(at);
                    ts.add(0, s.self);
                }
                String t = ts.remove(0);
                if (t.equals(TXT)) {
                    if (e.name.equals("length") && ts.isEmpty()) {
                        e.how = "tlength";
                        return "I";
                    }
                    if (e.name.equals("at") && ts.size() == 1 && fitsType(ts.get(0), "I")) {
                        e.how = "tat";
                        return "C";
                    }
                    throw new Err(at);
                }
                Member m = decl(t) == null ? null : meant(decl(t), e.name);
                if (m == null || m.pts.size() != ts.size()) throw new Err(at);
                for (int i = 0; i < ts.size(); i++) if (!fitsType(ts.get(i), m.pts.get(i))) throw new Err(at);
                e.how = "method";
                return m.rt;
            }
            case "index": {
                String a = type(e.kids.get(0), s);
                String i = type(e.kids.get(1), s);
                if (!a.startsWith("[") || !plain(i) || !fitsType(i, "I")) throw new Err(at);
                return a.substring(1);
            }
            case "un": {
                String t = type(e.kids.get(0), s);
                boolean ok = switch (e.tok.s) {
                    case "!" -> t.equals("Z");
                    case "~" -> isInteger(t);
                    default -> isNumber(t);
                };
                if (!ok) throw new Err(at);
                return e.tok.s.equals("!") ? "Z" : promote(t);
            }
            case "bin":
                return binaryType(e, s);
            case "cast": {
                String x = type(e.kids.get(0), s);
                String t = resolve(e.type);
                if (t == null) throw new Err(e.type.at);
                boolean ok = plain(t) ? plain(x) && (isNumber(t) && isNumber(x) || x.equals(t)) : x.equals(NUL) || ref(x) && castable(x, t);
                if (!ok) throw new Err(at);
                return t;
            }
            case "instanceof": {
                String x = type(e.kids.get(0), s);
                String t = resolve(e.type);
                if (t == null) throw new Err(e.type.at);
                if (plain(t) || plain(x) || !x.equals(NUL) && !castable(x, t)) throw new Err(at);
                return "Z";
            }
            case "?": {
                String c = type(e.kids.get(0), s);
                String x = type(e.kids.get(1), s);
                String y = type(e.kids.get(2), s);
                if (!c.equals("Z")) throw new Err(at);
                if (isNumber(x) && isNumber(y)) return x.equals(y) ? x : promote(x, y);
                if (x.equals("Z") && y.equals("Z")) return "Z";
                if (ref(x) && ref(y)) {
                    if (x.equals(NUL)) return y;
                    if (fitsType(x, y)) return y;
                    if (fitsType(y, x)) return x;
                }
                throw new Err(at);
            }
            default: {
                Ex src = e.kids.get(0);
                String t = sourceType(src, s);
                if (t == null || typeName(e.name)) throw new Err(at);
                s.names.push(new String[] {e.name, t});
                String b = type(e.kids.get(1), s);
                s.names.pop();
                if (e.op.equals("sum") ? !isNumber(b) : !b.equals("Z")) throw new Err(at);
                if (e.op.equals("sum")) return b.equals("F") ? "D" : promote(b);
                return e.op.equals("count") ? "I" : "Z";
            }
        }
    }

    /** The type of what a source goes through; null if it is none. */
    String sourceType(Ex src, Scope s) {
        if (src.single && s.var(src.name) == null && decls.containsKey(src.name)) {
            src.how = "class";
            src.ty = "L" + src.name + ";";
            return src.ty;
        }
        String t = type(src, s);
        return t.startsWith("[") ? t.substring(1) : null;
    }

    String binaryType(Ex e, Scope s) {
        String x = type(e.kids.get(0), s);
        String y = type(e.kids.get(1), s);
        boolean bools = x.equals("Z") && y.equals("Z");
        switch (e.tok.s) {
            case "+", "-", "*", "/", "%":
                if (isNumber(x) && isNumber(y)) return promote(x, y);
                break;
            case "<<", ">>", ">>>":
                if (isInteger(x) && isInteger(y)) return promote(x);
                break;
            case "<", ">", "<=", ">=":
                if (isNumber(x) && isNumber(y)) return "Z";
                break;
            case "==", "!=":
                if (isNumber(x) && isNumber(y) || bools) return "Z";
                if (ref(x) && ref(y) && (x.equals(NUL) || y.equals(NUL) || castable(x, y))) return "Z";
                break;
            case "&", "|", "^":
                if (bools) return "Z";
                if (isInteger(x) && isInteger(y)) return promote(x, y);
                break;
            default:
                if (bools) return "Z";
        }
        throw new Err(e.tok.at);
    }

    // ---------- numbers
    static double dbl(String t, long b) { return t.equals("F") ? Float.intBitsToFloat((int) b) : t.equals("D") ? Double.longBitsToDouble(b) : (double) b; }

    static long conv(long b, String from, String to) {
        if (from.equals(to) || !plain(from) || !plain(to)) return b;
        switch (from) {
            case "F": {
                float f = Float.intBitsToFloat((int) b);
                return switch (to) {
                    case "D" -> Double.doubleToRawLongBits(f);
                    case "J" -> (long) f;
                    case "I" -> (int) f;
                    case "C" -> (char) f;
                    case "S" -> (short) f;
                    default -> (byte) f;
                };
            }
            case "D": {
                double f = Double.longBitsToDouble(b);
                return switch (to) {
                    case "F" -> Float.floatToRawIntBits((float) f) & 0xFFFFFFFFL;
                    case "J" -> (long) f;
                    case "I" -> (int) f;
                    case "C" -> (char) f;
                    case "S" -> (short) f;
                    default -> (byte) f;
                };
            }
            default:
                return switch (to) {
                    case "F" -> Float.floatToRawIntBits((float) b) & 0xFFFFFFFFL;
                    case "D" -> Double.doubleToRawLongBits((double) b);
                    case "J" -> b;
                    case "I" -> (int) b;
                    case "C" -> (char) b;
                    case "S" -> (short) b;
                    default -> (byte) b;
                };
        }
    }

    static long arith(String op, long a, long b, String t) {
        switch (t) {
            case "F": {
                float x = Float.intBitsToFloat((int) a);
                float y = Float.intBitsToFloat((int) b);
                float r = switch (op) { case "+" -> x + y; case "-" -> x - y; case "*" -> x * y; case "/" -> x / y; default -> x % y; };
                if (r != r) throw new Fail(8);
                return Float.floatToRawIntBits(r) & 0xFFFFFFFFL;
            }
            case "D": {
                double x = Double.longBitsToDouble(a);
                double y = Double.longBitsToDouble(b);
                double r = switch (op) { case "+" -> x + y; case "-" -> x - y; case "*" -> x * y; case "/" -> x / y; default -> x % y; };
                if (r != r) throw new Fail(8);
                return Double.doubleToRawLongBits(r);
            }
            case "I": {
                int x = (int) a;
                int y = (int) b;
                if (y == 0 && "/%".contains(op)) throw new Fail(8);
                return switch (op) { case "+" -> x + y; case "-" -> x - y; case "*" -> x * y; case "/" -> x / y; default -> x % y; };
            }
            default:
                if (b == 0 && "/%".contains(op)) throw new Fail(8);
                return switch (op) { case "+" -> a + b; case "-" -> a - b; case "*" -> a * b; case "/" -> a / b; default -> a % b; };
        }
    }

    // ---------- evaluation
    static final class Env {
        long self;
        Map<String, Long> params = new HashMap<>();
        Deque<Object[]> names = new ArrayDeque<>();

        long var(String n) {
            for (Object[] o : names) if (o[0].equals(n)) return (Long) o[1];
            return params.get(n);
        }
        boolean has(String n) {
            for (Object[] o : names) if (o[0].equals(n)) return true;
            return params.containsKey(n);
        }
    }

    int counted;
    int limit;
    int calls;

    void step() {
        if (counted >= limit) throw new Fail(10);
        counted++;
    }

    long eval(Ex e, Env v) {
        switch (e.op) {
            case "lit":
                if (e.tok.kind.equals("text")) return textNumber(e.tok.s);
                if (e.tok.kind.equals("kw")) return e.tok.s.equals("true") ? 1 : 0;
                return e.tok.v;
            case "this":
                return v.self;
            case "name":
                if (v.has(e.name)) return v.var(e.name);
                step();
                return readCell((int) v.self, e.number);
            case "field": {
                if (e.how.equals("constant")) return constantNumber(e.ty, e.number);
                long t = eval(e.kids.get(0), v);
                step();
                if (t == 0) throw new Fail(3);
                return switch (e.how) {
                    case "length" -> info((int) t).size;
                    case "number" -> info((int) t).position;
                    default -> readCell((int) t, e.number);
                };
            }
            case "call":
            case "self":
                return evalCall(e, v);
            case "index": {
                long t = eval(e.kids.get(0), v);
                long i = eval(e.kids.get(1), v);
                step();
                if (t == 0) throw new Fail(3);
                if (i < 0 || i >= info((int) t).size) throw new Fail(2);
                return readCell((int) t, (int) i);
            }
            case "un": {
                long x = eval(e.kids.get(0), v);
                step();
                String t = e.ty;
                if (e.tok.s.equals("!")) return 1 - x;
                x = conv(x, e.kids.get(0).ty, t);
                if (e.tok.s.equals("~")) return ~x;
                return switch (t) {
                    case "F" -> Float.floatToRawIntBits(-Float.intBitsToFloat((int) x)) & 0xFFFFFFFFL;
                    case "D" -> Double.doubleToRawLongBits(-Double.longBitsToDouble(x));
                    case "I" -> -(int) x;
                    default -> -x;
                };
            }
            case "bin":
                return evalBinary(e, v);
            case "cast": {
                long x = eval(e.kids.get(0), v);
                step();
                if (plain(e.ty)) return conv(x, e.kids.get(0).ty, e.ty);
                if (x != 0 && !sub(info((int) x).type, e.ty)) throw new Fail(7);
                return x;
            }
            case "instanceof": {
                long x = eval(e.kids.get(0), v);
                step();
                return x != 0 && sub(info((int) x).type, resolve(e.type)) ? 1 : 0;
            }
            case "?": {
                long c = eval(e.kids.get(0), v);
                step();
                Ex k = e.kids.get(c != 0 ? 1 : 2);
                return conv(eval(k, v), k.ty, e.ty);
            }
            default: {
                Object src = evalSource(e.kids.get(0), v, true);
                String bt = e.kids.get(1).ty;
                long acc = e.op.equals("all") ? 1 : 0;
                int n = sizeOf(src);
                for (int i = 0; i < n; i++) {
                    step();
                    v.names.push(new Object[] {e.name, elementOf(src, i)});
                    long b = eval(e.kids.get(1), v);
                    v.names.pop();
                    switch (e.op) {
                        case "exists":
                            if (b == 1) return 1;
                            break;
                        case "all":
                            if (b == 0) return 0;
                            break;
                        case "count":
                            acc += b;
                            break;
                        default:
                            acc = arith("+", acc, conv(b, bt, e.ty), e.ty);
                    }
                }
                return acc;
            }
        }
    }

    /** A list of objects, or the number of an array. */
    Object evalSource(Ex src, Env v, boolean counts) {
        long t = 0;
        boolean isClass = "class".equals(src.how);
        if (!isClass) t = eval(src, v);
        if (counts) step();
        if (isClass) {
            markClass(src.ty);
            List<Long> all = new ArrayList<>();
            for (int o : aliveNow()) if (sub(info(o).type, src.ty)) all.add((long) o);
            return all;
        }
        if (t == 0) throw new Fail(3);
        return (int) t;
    }

    int sizeOf(Object src) { return src instanceof List<?> l ? l.size() : info((Integer) src).size; }
    long elementOf(Object src, int i) { return src instanceof List<?> l ? (Long) l.get(i) : readCell((Integer) src, i); }

    long evalCall(Ex e, Env v) {
        List<Long> vs = new ArrayList<>();
        List<String> ts = new ArrayList<>();
        if (e.op.equals("self")) {
            vs.add(v.self);
            ts.add("");
        }
        for (Ex k : e.kids) {
            vs.add(eval(k, v));
            ts.add(k.ty);
        }
        step();
        int t = (int) (long) vs.get(0);
        if (t == 0) throw new Fail(3);
        if (e.how.equals("tlength")) return info(t).text.length();
        if (e.how.equals("tat")) {
            long i = vs.get(1);
            if (i < 0 || i >= info(t).text.length()) throw new Fail(2);
            return info(t).text.charAt((int) i);
        }
        if (calls >= 30) throw new Fail(9);
        Member m = body(decl(info(t).type), e.name);
        Env n = new Env();
        n.self = t;
        for (int i = 0; i < m.params.size(); i++) n.params.put(m.params.get(i).name.s, conv(vs.get(i + 1), ts.get(i + 1), m.pts.get(i)));
        calls++;
        long r = conv(eval(m.body, n), m.body.ty, m.rt);
        calls--;
        return r;
    }

    long evalBinary(Ex e, Env v) {
        String op = e.tok.s;
        Ex l = e.kids.get(0);
        Ex r = e.kids.get(1);
        long a = eval(l, v);
        if (op.equals("&&") || op.equals("||")) {
            step();
            if (a == (op.equals("||") ? 1 : 0)) return a;
            return eval(r, v);
        }
        long b = eval(r, v);
        step();
        switch (op) {
            case "+", "-", "*", "/", "%":
                return arith(op, conv(a, l.ty, e.ty), conv(b, r.ty, e.ty), e.ty);
            case "<<":
                return e.ty.equals("I") ? (int) a << (int) b : a << b;
            case ">>":
                return e.ty.equals("I") ? (int) a >> (int) b : a >> b;
            case ">>>":
                return e.ty.equals("I") ? (int) a >>> (int) b : a >>> b;
            case "&":
                return a & b;
            case "|":
                return a | b;
            case "^":
                return a ^ b;
            default:
        }
        if (!isNumber(l.ty)) return (op.equals("==")) == (a == b) ? 1 : 0;
        String t = promote(l.ty, r.ty);
        a = conv(a, l.ty, t);
        b = conv(b, r.ty, t);
        boolean less;
        boolean equal;
        if (t.equals("F") || t.equals("D")) {
            less = dbl(t, a) < dbl(t, b);
            equal = dbl(t, a) == dbl(t, b);
        } else {
            less = a < b;
            equal = a == b;
        }
        return switch (op) {
            case "<" -> less;
            case ">" -> !less && !equal;
            case "<=" -> less || equal;
            case ">=" -> !less;
            case "==" -> equal;
            default -> !equal;
        } ? 1 : 0;
    }

    // ---------- the store
    static final class Info {
        String type;
        int size;
        String text;
        int position;
        int createdBy; // version of the commit, or -1
    }

    static final class Ver {
        TreeMap<Integer, long[]> objs = new TreeMap<>();
        int[] roots = new int[16];
    }

    static final class Tx {
        int number;
        int begun;
        Ver state = new Ver();
        Set<Integer> read = new TreeSet<>();
        Set<Integer> changed = new TreeSet<>();
        Set<Integer> created = new TreeSet<>();
        Set<Integer> rootsRead = new TreeSet<>();
        Set<Integer> rootsChanged = new TreeSet<>();
        Set<String> classes = new TreeSet<>();
    }

    static final class Commit {
        int version;
        Set<Integer> changed;
        Set<Integer> created;
        Set<Integer> roots;
    }

    boolean declared;
    boolean closed;
    byte[] tray = new byte[0];
    List<long[]> args = new ArrayList<>();
    int place = -1;
    int clash = -1;
    int code = 0;
    long answered = 0;
    int stepsTold = 0;
    List<long[]> answerRows = new ArrayList<>();
    List<Integer> answerKinds = new ArrayList<>();
    List<Integer> found = new ArrayList<>();
    byte[] graph = new byte[0];
    List<long[]> rows = new ArrayList<>();
    int next = 1;
    int fixed = 0;
    int elements = 0;
    int total = 0;
    Map<Integer, Info> infos = new TreeMap<>();
    TreeMap<Integer, Ver> versions = new TreeMap<>();
    TreeMap<Integer, Tx> txs = new TreeMap<>();
    List<Commit> commits = new ArrayList<>();
    Set<Integer> goneTexts = new HashSet<>();
    int lastTx = 0;
    Tx viewTx;
    int viewVersion = -1;
    List<byte[]> written = new ArrayList<>();
    byte[] log = new byte[0];
    int openings = 0;
    int since = 1;

    Info info(int t) { return infos.get(t); }
    boolean opened() { return declared && !closed; }
    boolean viewed() { return opened() && (viewTx != null || viewVersion >= 0); }
    boolean changing() { return opened() && viewTx != null; }
    Ver state() { return viewTx != null ? viewTx.state : versions.get(viewVersion); }

    boolean isFixedOrText(int t) {
        Info i = infos.get(t);
        return i != null && (i.text != null && !goneTexts.contains(t) || decl(i.type) != null && decl(i.type).sort.equals("enum"));
    }
    boolean isAlive(long t) {
        if (t <= 0 || t >= next || !viewed()) return false;
        return isFixedOrText((int) t) || state().objs.containsKey((int) t);
    }
    boolean gone(long t) { return t != 0 && !isAlive(t); }
    List<Integer> aliveNow() {
        List<Integer> out = new ArrayList<>();
        for (int t = 1; t < next; t++) if (isAlive(t)) out.add(t);
        return out;
    }
    void markRead(int t) { if (viewTx != null) viewTx.read.add(t); }
    void markClass(String t) { if (viewTx != null) viewTx.classes.add(t); }
    long readCell(int t, int i) {
        markRead(t);
        return state().objs.get(t)[i];
    }
    int constantNumber(String type, int i) {
        for (int t = 1; t <= fixed; t++) if (infos.get(t).type.equals(type) && infos.get(t).position == i) return t;
        throw new IllegalStateException();
    }
    int textNumber(String s) {
        for (Map.Entry<Integer, Info> e : infos.entrySet()) if (s.equals(e.getValue().text) && !goneTexts.contains(e.getKey())) return e.getKey();
        return 0;
    }
    boolean room(int objects, int cells) { return next - 1 + objects <= 4000 && elements + cells <= 20000; }
    int newInfo(String type, int size, String text, int position) {
        Info i = new Info();
        i.type = type;
        i.size = size;
        i.text = text;
        i.position = position;
        i.createdBy = -1;
        infos.put(next, i);
        return next++;
    }
    int newText(String s) { return newInfo(TXT, s.length(), s, 0); }
    int newObject(String type, int size) {
        int t = newInfo(type, size, null, 0);
        elements += size;
        viewTx.state.objs.put(t, new long[size]);
        viewTx.created.add(t);
        return t;
    }
    boolean claim(int t) {
        if (viewTx.created.contains(t) || viewTx.changed.contains(t)) return true;
        if (total + info(t).size > 60000) return false;
        total += info(t).size;
        viewTx.changed.add(t);
        return true;
    }
    boolean isArray(int t) { return info(t).type.startsWith("["); }
    boolean hasFields(int t) { return !isArray(t) && info(t).text == null && !decl(info(t).type).sort.equals("enum"); }
    boolean hasCells(int t) { return isArray(t) || hasFields(t); }
    String slot(int t, int i) { return slot(info(t).type, i); }
    String slot(String type, int i) { return type.startsWith("[") ? type.substring(1) : fieldsOf(decl(type)).get(i).rt; }

    static boolean hasBits(int kind, long b) {
        return switch (kind) {
            case 0 -> b == 0 || b == 1;
            case 1 -> b == (byte) b;
            case 2 -> b == (short) b;
            case 3 -> b == (char) b;
            case 4 -> b == (int) b;
            case 6 -> b >>> 32 == 0 && !Float.isNaN(Float.intBitsToFloat((int) b));
            case 7 -> !Double.isNaN(Double.longBitsToDouble(b));
            default -> true;
        };
    }
    boolean suits(long kind, long bits, String type) {
        if (kind == 8) return ref(type) && (bits == 0 || sub(info((int) bits).type, type));
        return kind < 8 && hasBits((int) kind, bits) && plain(type) && fitsType("" + LETTERS.charAt((int) kind), type);
    }
    static long widen(long kind, long bits, String type) { return kind == 8 ? bits : conv(bits, "" + LETTERS.charAt((int) kind), type); }

    byte[] takeTray() {
        byte[] b = tray;
        tray = new byte[0];
        return b;
    }
    static String str(byte[] b) { return new String(b, StandardCharsets.ISO_8859_1); }

    // ---------- the calls
    int feed(int... v) {
        if (tray.length + 20 > 65540) return -1;
        java.nio.ByteBuffer b = java.nio.ByteBuffer.allocate(tray.length + 20);
        b.put(tray);
        for (int x : v) b.putInt(x);
        tray = b.array();
        return tray.length;
    }
    int end(int n) {
        if (n < 0 || n > tray.length) return -1;
        tray = Arrays.copyOf(tray, n);
        return n;
    }
    int declare() {
        place = -1;
        if (declared) return -13;
        String text = str(takeTray());
        if (text.length() > 20000) {
            place = 20000;
            return -1;
        }
        List<Tok> toks = lex(text);
        Set<String> names = new HashSet<>(Set.of("Object", "Text"));
        for (int i = 1; i < toks.size(); i++) {
            Tok b = toks.get(i - 1);
            if (toks.get(i).kind.equals("name") && (b.is("class") || b.is("interface") || b.is("enum") || b.is("record"))) names.add(toks.get(i).s);
        }
        List<Decl> ds;
        Parser p = new Parser(toks, names);
        try {
            ds = p.text();
        } catch (Err e) {
            place = e.at;
            return -1;
        }
        try {
            check(ds, p.types, toks);
        } catch (Err e) {
            place = e.at;
            return -2;
        }
        List<String> texts = new ArrayList<>();
        for (Tok t : toks) if (t.kind.equals("text") && !texts.contains(t.s)) texts.add(t.s);
        int constants = 0;
        for (Decl d : ds) constants += d.constants.size();
        if (constants + texts.size() > 4000) return -12;
        for (Decl d : ds) for (int i = 0; i < d.constants.size(); i++) newInfo(d.d(), 0, null, i);
        for (String t : texts) newText(t);
        fixed = next - 1;
        since = next;
        declared = true;
        classNames = names;
        versions.put(0, new Ver());
        return ds.size();
    }
    int place() { return place; }
    int kind() {
        if (!opened()) return -13;
        String d = str(takeTray());
        int n = 0;
        while (n < d.length() && d.charAt(n) == '[') n++;
        String b = d.substring(n);
        if (!baseExists(b)) return -14;
        if (n > 8) return -12;
        return makeType(d);
    }
    boolean baseExists(String b) {
        return b.length() == 1 && LETTERS.contains(b) || b.length() > 2 && b.startsWith("L") && b.endsWith(";") && typeName(b.substring(1, b.length() - 1));
    }
    int makeType(String d) {
        if (d.startsWith("[[[[[[[[[")) return -12;
        int missing = 0;
        for (String t = d; !types.contains(t); t = t.substring(1)) missing++;
        if (types.size() + missing > 400) return -12;
        for (int i = missing - 1; i >= 0; i--) types.add(d.substring(i));
        return types.indexOf(d);
    }
    int kinds() { return declared ? types.size() : 0; }
    boolean noType(int k) { return k < 0 || k >= types.size(); }
    int fits(int k, int j) {
        if (!opened()) return -13;
        if (noType(k) || noType(j)) return -14;
        return fitsType(types.get(k), types.get(j)) ? 1 : 0;
    }
    int fields(int k) {
        if (!opened()) return -13;
        return noType(k) ? -14 : fieldsOf(decl(types.get(k))).size();
    }
    int field(int k, int i) {
        if (!opened()) return -13;
        if (noType(k)) return -14;
        List<Member> fs = fieldsOf(decl(types.get(k)));
        return i < 0 || i >= fs.size() ? -14 : types.indexOf(fs.get(i).rt);
    }
    int named(int k) {
        if (!opened()) return -13;
        String n = str(takeTray());
        if (noType(k)) return -14;
        int i = fieldIndex(types.get(k), n);
        return i < 0 ? -14 : i;
    }
    int begin() {
        if (!opened()) return -13;
        if (txs.size() == 8) return -12;
        Tx t = new Tx();
        t.number = ++lastTx;
        t.begun = versions.lastKey();
        copyState(versions.get(t.begun), t.state);
        txs.put(t.number, t);
        viewTx = t;
        viewVersion = -1;
        return t.number;
    }
    static void copyState(Ver from, Ver to) {
        for (Map.Entry<Integer, long[]> e : from.objs.entrySet()) to.objs.put(e.getKey(), e.getValue().clone());
        to.roots = from.roots.clone();
    }
    int use(int n) {
        if (!opened() || !txs.containsKey(n)) return 0;
        viewTx = txs.get(n);
        viewVersion = -1;
        return 1;
    }
    int view(int v) {
        if (!opened() || !versions.containsKey(v)) return 0;
        viewTx = null;
        viewVersion = v;
        return 1;
    }
    int keep(int n) {
        if (!opened()) return -13;
        Tx t = txs.get(n);
        if (t == null) return -14;
        int c = conflict(t);
        if (c >= 0) {
            clash = c;
            return -1;
        }
        if (versions.lastKey() == 64) return -12;
        byte[] rec = commitRecord(t);
        if (log.length + rec.length > 40000) return -12;
        append(rec);
        since = next;
        int v = versions.lastKey() + 1;
        Ver ver = new Ver();
        copyState(versions.lastEntry().getValue(), ver);
        for (int x : t.changed) ver.objs.put(x, t.state.objs.get(x).clone());
        for (int x : t.created) ver.objs.put(x, t.state.objs.get(x).clone());
        for (int r : t.rootsChanged) ver.roots[r] = t.state.roots[r];
        versions.put(v, ver);
        for (int x : t.created) info(x).createdBy = v;
        Commit k = new Commit();
        k.version = v;
        k.changed = t.changed;
        k.created = t.created;
        k.roots = t.rootsChanged;
        commits.add(k);
        txs.remove(n);
        if (viewTx == t) viewTx = null;
        clash = -1;
        return v;
    }
    int conflict(Tx t) {
        TreeSet<Integer> bad = new TreeSet<>();
        for (Commit c : commits) {
            if (c.version <= t.begun) continue;
            for (int r : c.roots) if (t.rootsRead.contains(r) || t.rootsChanged.contains(r)) bad.add(0);
            for (int x : c.changed) if (t.read.contains(x) || t.changed.contains(x)) bad.add(x);
            for (int x : c.created) for (String k : t.classes) if (sub(info(x).type, k)) bad.add(x);
        }
        return bad.isEmpty() ? -1 : bad.first();
    }
    int clash() { return clash; }
    int drop(int n) {
        if (!opened() || !txs.containsKey(n)) return 0;
        Tx t = txs.remove(n);
        if (viewTx == t) viewTx = null;
        return 1;
    }
    int newest() { return opened() ? versions.lastKey() : -1; }
    int make(int k) {
        if (!changing()) return -13;
        if (noType(k)) return -14;
        Decl d = decl(types.get(k));
        if (d == null || !d.sort.equals("class")) return -1;
        int n = fieldsOf(d).size();
        return room(1, n) ? newObject(types.get(k), n) : -12;
    }
    int argument(int kind, long bits) {
        if (kind < 0 || kind > 8) return -1;
        if (kind == 8 ? bits < 0 || bits > 2147483647L : !hasBits(kind, bits)) return -1;
        if (args.size() == 40) return -12;
        args.add(new long[] {kind, bits});
        return args.size();
    }
    boolean goneArg(List<long[]> as) {
        for (long[] a : as) if (a[0] == 8 && gone(a[1])) return true;
        return false;
    }
    int record(int k) {
        if (!changing()) return -13;
        List<long[]> as = args;
        args = new ArrayList<>();
        if (noType(k) || goneArg(as)) return -14;
        Decl d = decl(types.get(k));
        if (d == null || !d.sort.equals("record")) return -1;
        List<Member> fs = fieldsOf(d);
        if (fs.size() != as.size()) return -1;
        for (int i = 0; i < fs.size(); i++) if (!suits(as.get(i)[0], as.get(i)[1], fs.get(i).rt)) return -1;
        if (!room(1, fs.size())) return -12;
        int t = newObject(types.get(k), fs.size());
        for (int i = 0; i < fs.size(); i++) state().objs.get(t)[i] = widen(as.get(i)[0], as.get(i)[1], fs.get(i).rt);
        return t;
    }
    int array(int k, int n) {
        if (!changing()) return -13;
        if (noType(k)) return -14;
        if (n < 0) return -4;
        if (n > 400 || !room(1, n)) return -12;
        String t = "[" + types.get(k);
        if (makeType(t) < 0) return -12;
        return newObject(t, n);
    }
    int text() {
        if (!opened()) return -13;
        String s = str(takeTray());
        if (s.length() > 1000 || !s.matches("[ -~]*")) return -1;
        if (textNumber(s) > 0) return textNumber(s);
        return room(1, 0) ? newText(s) : -12;
    }
    int constant(int k, int i) {
        if (!opened()) return -13;
        if (noType(k)) return -14;
        Decl d = decl(types.get(k));
        if (d == null || !d.sort.equals("enum")) return -1;
        return i < 0 || i >= d.constants.size() ? -2 : constantNumber(types.get(k), i);
    }
    int wrongObject(long t) {
        if (!viewed()) return -13;
        if (gone(t)) return -14;
        return t == 0 ? -3 : 0;
    }
    int kindOf(int t) {
        int w = wrongObject(t);
        return w != 0 ? w : types.indexOf(info(t).type);
    }
    int size(int t) {
        int w = wrongObject(t);
        if (w != 0) return w;
        return isArray(t) || info(t).text != null ? info(t).size : -1;
    }
    int letter(int t, int i) {
        int w = wrongObject(t);
        if (w != 0) return w;
        if (info(t).text == null) return -1;
        return i < 0 || i >= info(t).size ? -2 : info(t).text.charAt(i);
    }
    long get(int t, int i) {
        int w = wrongObject(t);
        if (w == 0 && !hasFields(t)) w = -1;
        if (w == 0 && (i < 0 || i >= info(t).size)) w = -14;
        code = -w;
        return w == 0 ? readCell(t, i) : 0;
    }
    long element(int t, int i) {
        int w = wrongObject(t);
        if (w == 0 && !isArray(t)) w = -1;
        if (w == 0 && (i < 0 || i >= info(t).size)) w = -2;
        code = -w;
        return w == 0 ? readCell(t, i) : 0;
    }
    int code() { return code; }
    int put(int t, int i, int kind, long bits) {
        if (!changing()) return -13;
        if (gone(t) || kind == 8 && gone(bits) || noType(kind)) return -14;
        if (t == 0) return -3;
        if (!hasFields(t)) return -1;
        if (i < 0 || i >= info(t).size) return -14;
        if (!suits(kind, bits, slot(t, i))) return -1;
        if (decl(info(t).type).sort.equals("record")) return -5;
        if (!claim(t)) return -12;
        state().objs.get(t)[i] = widen(kind, bits, slot(t, i));
        return 0;
    }
    int set(int t, int i, int kind, long bits) {
        if (!changing()) return -13;
        if (gone(t) || kind == 8 && gone(bits) || noType(kind)) return -14;
        if (t == 0) return -3;
        if (!isArray(t)) return -1;
        if (!suits(kind, bits, slot(t, 0))) return -1;
        if (i < 0 || i >= info(t).size) return -2;
        if (!claim(t)) return -12;
        state().objs.get(t)[i] = widen(kind, bits, slot(t, 0));
        return 0;
    }
    int copy(int a, int i, int b, int j, int n) {
        if (!changing()) return -13;
        if (gone(a) || gone(b)) return -14;
        if (a == 0 || b == 0) return -3;
        if (!isArray(a) || !isArray(b)) return -1;
        String x = slot(a, 0);
        String y = slot(b, 0);
        if ((plain(x) || plain(y)) && !x.equals(y)) return -1;
        if (n < 0 || i < 0 || j < 0 || (long) i + n > info(a).size || (long) j + n > info(b).size) return -2;
        if (n == 0) return 0;
        if (!claim(b)) return -12;
        markRead(a);
        long[] from = state().objs.get(a).clone();
        for (int k = 0; k < n; k++) {
            long v = from[i + k];
            if (ref(y) && v != 0 && !sub(info((int) v).type, y)) return -6;
            state().objs.get(b)[j + k] = v;
        }
        return 0;
    }
    int cloned(int t) {
        if (!changing()) return -13;
        int w = wrongObject(t);
        if (w != 0) return w;
        if (!isArray(t)) return -1;
        if (!room(1, info(t).size)) return -12;
        markRead(t);
        int u = newObject(info(t).type, info(t).size);
        state().objs.put(u, state().objs.get(t).clone());
        return u;
    }
    int root(int i, int t) {
        if (!changing()) return -13;
        if (gone(t)) return -14;
        if (i < 0 || i > 15) return -2;
        viewTx.rootsChanged.add(i);
        viewTx.state.roots[i] = t;
        return 0;
    }
    int rootAt(int i) {
        if (!viewed()) return -13;
        if (i < 0 || i > 15) return -2;
        if (viewTx != null) viewTx.rootsRead.add(i);
        return state().roots[i];
    }
    int alive(int t) { return isAlive(t) ? 1 : 0; }
    int call(int t, int steps) {
        stepsTold = 0;
        answered = 0;
        if (!viewed()) return -13;
        String n = str(takeTray());
        List<long[]> as = args;
        args = new ArrayList<>();
        if (gone(t) || goneArg(as)) return -14;
        if (t == 0) return -3;
        if (steps < 0 || steps > 100000 || !hasFields(t)) return -1;
        Member m = body(decl(info(t).type), n);
        if (m == null || m.pts.size() != as.size()) return -1;
        Env v = new Env();
        v.self = t;
        for (int i = 0; i < as.size(); i++) {
            if (!suits(as.get(i)[0], as.get(i)[1], m.pts.get(i))) return -1;
            v.params.put(m.params.get(i).name.s, widen(as.get(i)[0], as.get(i)[1], m.pts.get(i)));
        }
        counted = 0;
        limit = steps;
        calls = 1;
        try {
            answered = conv(eval(m.body, v), m.body.ty, m.rt);
            return 0;
        } catch (Fail f) {
            return -f.code;
        } finally {
            stepsTold = counted;
        }
    }
    long answered() { return answered; }
    int steps() { return stepsTold; }
    int ask(int steps) {
        place = -1;
        stepsTold = 0;
        if (!viewed()) return -13;
        String s = str(takeTray());
        if (steps < 0 || steps > 100000) return -1;
        List<Tok> toks = lex(s);
        Query q;
        try {
            q = query(new Parser(toks, classNames));
        } catch (Err e) {
            place = e.at;
            return -21;
        }
        List<String> kinds = new ArrayList<>();
        try {
            Scope sc = new Scope();
            for (int i = 0; i < q.names.size(); i++) {
                tall(q.sources.get(i));
                String t = sourceType(q.sources.get(i), sc);
                String n = q.names.get(i).s;
                if (t == null || typeName(n) || sc.var(n) != null) throw new Err(q.names.get(i).at);
                sc.names.push(new String[] {n, t});
            }
            if (q.where != null) {
                tall(q.where);
                if (!type(q.where, sc).equals("Z")) throw new Err(q.where.firstAt);
            }
            if (q.order != null) {
                tall(q.order);
                String t = type(q.order, sc);
                if (!plain(t) && !t.equals(TXT)) throw new Err(q.order.firstAt);
            }
            for (Ex g : q.give) {
                tall(g);
                kinds.add(type(g, sc));
            }
        } catch (Err e) {
            place = e.at;
            return -22;
        }
        Set<String> texts = new LinkedHashSet<>();
        for (Tok t : toks) if (t.kind.equals("text") && textNumber(t.s) == 0) texts.add(t.s);
        if (!room(texts.size(), 0)) return -12;
        for (String t : texts) newText(t);
        counted = 0;
        limit = steps;
        calls = 0;
        List<long[]> out = new ArrayList<>();
        try {
            loop(q, 0, new Env(), out);
        } catch (Fail f) {
            return -f.code;
        } finally {
            stepsTold = counted;
        }
        if (q.order != null) {
            Comparator<long[]> c = (a, b) -> order(q.order.ty, a[0], b[0]);
            out.sort(q.down ? c.reversed() : c);
        }
        answerRows = out;
        answerKinds = new ArrayList<>();
        for (String k : kinds) answerKinds.add(k.equals(NUL) ? 8 : types.indexOf(k));
        return out.size();
    }
    static void tall(Ex e) { if (e.height() > 30) throw new Err(e.firstAt); }
    int order(String t, long a, long b) {
        if (t.equals(TXT)) {
            if (a == 0 || b == 0) return Boolean.compare(a != 0, b != 0);
            return info((int) a).text.compareTo(info((int) b).text);
        }
        if (t.equals("F") || t.equals("D")) return Double.compare(dbl(t, a), dbl(t, b));
        return Long.compare(a, b);
    }
    void loop(Query q, int i, Env v, List<long[]> out) {
        if (i == q.names.size()) {
            if (q.where != null && eval(q.where, v) == 0) return;
            long[] row = new long[1 + q.give.size()];
            if (q.order != null) row[0] = eval(q.order, v);
            for (int g = 0; g < q.give.size(); g++) row[g + 1] = eval(q.give.get(g), v);
            if (out.size() == 1000) throw new Fail(12);
            out.add(row);
            return;
        }
        Object src = evalSource(q.sources.get(i), v, false);
        for (int n = 0; n < sizeOf(src); n++) {
            step();
            v.names.push(new Object[] {q.names.get(i).s, elementOf(src, n)});
            loop(q, i + 1, v, out);
            v.names.pop();
        }
    }
    long answer(int r, int c) { return r < 0 || r >= answerRows.size() || c < 0 || c >= answerKinds.size() ? 0 : answerRows.get(r)[c + 1]; }
    int answerKind(int c) { return c < 0 || c >= answerKinds.size() ? -1 : answerKinds.get(c); }
    int range(int k, int i, long low, long high) {
        if (!viewed()) return -13;
        if (noType(k)) return -14;
        List<Member> fs = fieldsOf(decl(types.get(k)));
        if (i < 0 || i >= fs.size()) return -14;
        String t = fs.get(i).rt;
        if (!plain(t) || !hasBits(num(t), low) || !hasBits(num(t), high)) return -1;
        List<Integer> out = new ArrayList<>();
        markClass(types.get(k));
        for (int o : aliveNow()) if (sub(info(o).type, types.get(k))) {
            long b = readCell(o, i);
            if (value(t, b, low) >= 0 && value(t, b, high) <= 0) out.add(o);
        }
        out.sort((a, b) -> value(t, readCell(a, i), readCell(b, i)));
        found = out;
        return out.size();
    }
    static int value(String t, long a, long b) {
        if (!t.equals("F") && !t.equals("D")) return Long.compare(a, b);
        return dbl(t, a) < dbl(t, b) ? -1 : dbl(t, a) == dbl(t, b) ? 0 : 1;
    }
    int found(int n) { return n < 0 || n >= found.size() ? 0 : found.get(n); }

    // ---------- graphs
    static void shortNumber(ByteArrayOutputStream o, int v) {
        while (v > 127) {
            o.write(v & 127 | 128);
            v >>>= 7;
        }
        o.write(v);
    }
    static int width(String t) { return switch (t) { case "Z", "B" -> 1; case "S", "C" -> 2; case "I", "F" -> 4; default -> 8; }; }
    static void number(ByteArrayOutputStream o, long v, int w) { for (int i = w - 1; i >= 0; i--) o.write((int) (v >>> 8 * i)); }
    static int crc(byte[] b, int n) {
        java.util.zip.CRC32 c = new java.util.zip.CRC32();
        c.update(b, 0, n);
        return (int) c.getValue();
    }
    int write(int t) {
        int w = wrongObject(t);
        if (w != 0) return w;
        List<Integer> walk = new ArrayList<>(List.of(t));
        for (int i = 0; i < walk.size(); i++) {
            int x = walk.get(i);
            markRead(x);
            if (!hasCells(x)) continue;
            for (int k = 0; k < info(x).size; k++) {
                int r = (int) state().objs.get(x)[k];
                if (ref(slot(x, k)) && r != 0 && !walk.contains(r)) walk.add(r);
            }
        }
        List<String> ts = new ArrayList<>();
        for (int x : walk) if (!ts.contains(info(x).type)) ts.add(info(x).type);
        ByteArrayOutputStream o = new ByteArrayOutputStream();
        o.write(79);
        o.write(71);
        shortNumber(o, ts.size());
        for (String d : ts) {
            o.write(d.length());
            for (char c : d.toCharArray()) o.write(c);
        }
        shortNumber(o, walk.size());
        for (int x : walk) {
            Info f = info(x);
            shortNumber(o, ts.indexOf(f.type));
            if (f.text != null) {
                shortNumber(o, f.size);
                for (char c : f.text.toCharArray()) o.write(c);
            } else if (!hasCells(x)) {
                shortNumber(o, f.position);
            } else {
                if (isArray(x)) shortNumber(o, f.size);
                for (int k = 0; k < f.size; k++) {
                    long v = state().objs.get(x)[k];
                    if (ref(slot(x, k))) shortNumber(o, v == 0 ? 0 : walk.indexOf((int) v) + 1);
                    else number(o, v, width(slot(x, k)));
                }
            }
        }
        number(o, crc(o.toByteArray(), o.size()), 4);
        if (o.size() > 20000 || ts.size() > 100) return -12;
        graph = o.toByteArray();
        return graph.length;
    }
    int at(int i) { return i < 0 || i >= graph.length ? -1 : graph[i] & 255; }

    final class Reader {
        byte[] b;
        int p;
        int end;
        int shortNum() {
            int start = p;
            long v = 0;
            for (int n = 0; ; n++) {
                if (p >= end || n > 6) throw new Err(start);
                int x = b[p++] & 255;
                v |= (long) (x & 127) << 7 * n;
                if (x < 128) {
                    if (x == 0 && n > 0 || v > Integer.MAX_VALUE) throw new Err(start);
                    return (int) v;
                }
            }
        }
        int shortNum(int low, int high) {
            int start = p;
            int v = shortNum();
            if (v < low || v > high) throw new Err(start);
            return v;
        }
        long value(String t) {
            int w = width(t);
            if (p + w > end) throw new Err(p);
            long v = 0;
            for (int i = 0; i < w; i++) v = v << 8 | b[p + i] & 255;
            if (t.equals("B")) v = (byte) v;
            if (t.equals("S")) v = (short) v;
            if (t.equals("I")) v = (int) v;
            if (!hasBits(num(t), v)) throw new Err(p);
            p += w;
            return v;
        }
    }
    static final class Node {
        String type;
        String text;
        int position;
        long[] cells = new long[0];
        int[] at = new int[0];
        int number;
    }
    int read() {
        place = -1;
        if (!changing()) return -13;
        byte[] b = takeTray();
        int n = b.length;
        List<Node> nodes;
        try {
            int sum = 0;
            if (n >= 8) sum = java.nio.ByteBuffer.wrap(b).getInt(n - 4);
            if (n < 8 || sum != crc(b, n - 4)) throw new Err(Math.max(0, n - 4));
            nodes = parseGraph(b, n - 4);
        } catch (Err e) {
            place = e.at;
            return -20;
        }
        int objects = 0;
        int cells = 0;
        Set<String> texts = new HashSet<>();
        for (Node x : nodes) {
            if (x.text != null) {
                if (textNumber(x.text) == 0) texts.add(x.text);
            } else if (decl(x.type) == null || !decl(x.type).sort.equals("enum")) {
                objects++;
                cells += x.cells.length;
            }
        }
        if (!room(objects + texts.size(), cells)) return -12;
        for (Node x : nodes) {
            if (x.text != null) x.number = textNumber(x.text) > 0 ? textNumber(x.text) : newText(x.text);
            else if (decl(x.type) != null && decl(x.type).sort.equals("enum")) x.number = constantNumber(x.type, x.position);
            else x.number = newObject(x.type, x.cells.length);
        }
        for (Node x : nodes) for (int k = 0; k < x.cells.length; k++) {
            long v = x.cells[k];
            state().objs.get(x.number)[k] = ref(slot(x.type, k)) && v != 0 ? nodes.get((int) v - 1).number : v;
        }
        return nodes.get(0).number;
    }
    List<Node> parseGraph(byte[] b, int end) {
        Reader r = new Reader();
        r.b = b;
        r.end = end;
        if (b[0] != 79) throw new Err(0);
        if (b[1] != 71) throw new Err(1);
        r.p = 2;
        int count = r.shortNum(1, 100);
        List<String> ts = new ArrayList<>();
        for (int i = 0; i < count; i++) {
            if (r.p >= end) throw new Err(r.p);
            int len = b[r.p++] & 255;
            if (r.p + len > end) throw new Err(r.p);
            String d = new String(b, r.p, len, StandardCharsets.ISO_8859_1);
            boolean bad = !types.contains(d) || plain(d) || d.equals(OBJ) || ts.contains(d)
                || decl(d) != null && (decl(d).sort.equals("interface") || decl(d).sort.equals("abstract"));
            if (bad) throw new Err(r.p);
            ts.add(d);
            r.p += len;
        }
        int n = r.shortNum(1, 4000);
        List<Node> out = new ArrayList<>();
        for (int i = 0; i < n; i++) {
            Node x = new Node();
            x.type = ts.get(r.shortNum(0, ts.size() - 1));
            Decl d = decl(x.type);
            if (x.type.equals(TXT)) {
                int len = r.shortNum(0, 1000);
                StringBuilder s = new StringBuilder();
                for (int k = 0; k < len; k++) {
                    if (r.p >= end || b[r.p] < 32 || b[r.p] > 126) throw new Err(r.p);
                    s.append((char) b[r.p++]);
                }
                x.text = s.toString();
            } else if (d != null && d.sort.equals("enum")) {
                x.position = r.shortNum(0, d.constants.size() - 1);
            } else {
                int len = d == null ? r.shortNum(0, 400) : fieldsOf(d).size();
                x.cells = new long[len];
                x.at = new int[len];
                for (int k = 0; k < len; k++) {
                    x.at[k] = r.p;
                    x.cells[k] = ref(slot(x.type, k)) ? r.shortNum(0, n) : r.value(slot(x.type, k));
                }
            }
            out.add(x);
        }
        if (r.p < end) throw new Err(r.p);
        for (Node x : out) for (int k = 0; k < x.cells.length; k++) {
            String s = slot(x.type, k);
            if (ref(s) && x.cells[k] != 0 && !sub(out.get((int) x.cells[k] - 1).type, s)) throw new Err(x.at[k]);
        }
        return out;
    }
    int wrongPair(int t, int u) {
        if (!viewed()) return -13;
        if (gone(t) || gone(u)) return -14;
        return t == 0 || u == 0 ? -3 : 0;
    }
    int same(int t, int u) {
        int w = wrongPair(t, u);
        if (w != 0) return w;
        Map<Integer, Integer> there = new HashMap<>();
        Map<Integer, Integer> back = new HashMap<>();
        List<int[]> pairs = new ArrayList<>();
        if (!meet(t, u, there, back, pairs)) return 0;
        for (int i = 0; i < pairs.size(); i++) {
            int x = pairs.get(i)[0];
            int y = pairs.get(i)[1];
            if (!hasCells(x)) continue;
            markRead(x);
            markRead(y);
            for (int k = 0; k < info(x).size; k++) {
                long a = state().objs.get(x)[k];
                long b = state().objs.get(y)[k];
                if (ref(slot(x, k))) {
                    if (!meet((int) a, (int) b, there, back, pairs)) return 0;
                } else if (a != b) {
                    return 0;
                }
            }
        }
        return 1;
    }
    boolean meet(int a, int b, Map<Integer, Integer> there, Map<Integer, Integer> back, List<int[]> pairs) {
        if (a == 0 || b == 0) return a == b;
        if (!hasCells(a) || !hasCells(b)) return a == b;
        if (there.containsKey(a) || back.containsKey(b)) return there.containsKey(a) && there.get(a) == b;
        if (!info(a).type.equals(info(b).type) || info(a).size != info(b).size) return false;
        there.put(a, b);
        back.put(b, a);
        pairs.add(new int[] {a, b});
        return true;
    }

    // ---------- patches
    final class Patch {
        List<long[]> out = new ArrayList<>();
        List<int[]> pairs = new ArrayList<>();
        Map<Integer, Integer> first = new HashMap<>();
        Map<Integer, Integer> second = new HashMap<>();
        List<Integer> fresh = new ArrayList<>();
        void row(long... r) {
            if (out.size() == 2000) throw new Fail(12);
            out.add(r);
        }
        void pair(int a, int b) {
            pairs.add(new int[] {a, b});
            first.put(a, b);
            second.put(b, a);
        }
        void refer(int x, int k, int a, int b) {
            if (a == 0 && b == 0) return;
            if (a != 0 && b != 0 && first.containsKey(a) && first.get(a) == b) return;
            if (b == 0) {
                row(1, x, k, a, 0);
            } else if (!hasCells(b)) {
                if (a != b) row(1, x, k, a, b);
            } else if (second.containsKey(b)) {
                row(1, x, k, a, second.get(b));
            } else if (fresh.contains(b)) {
                row(1, x, k, a, -(fresh.indexOf(b) + 1));
            } else if (a != 0 && hasCells(a) && !first.containsKey(a) && info(a).type.equals(info(b).type) && info(a).size == info(b).size) {
                pair(a, b);
            } else {
                fresh.add(b);
                row(2, -fresh.size(), types.indexOf(info(b).type), isArray(b) ? info(b).size : 0, 0);
                row(1, x, k, a, -fresh.size());
            }
        }
    }
    int patch(int t, int u) {
        int w = wrongPair(t, u);
        if (w != 0) return w;
        if (!info(t).type.equals(info(u).type) || !hasCells(t) || info(t).size != info(u).size) return -1;
        Patch p = new Patch();
        try {
            p.pair(t, u);
            for (int i = 0; i < p.pairs.size(); i++) {
                int x = p.pairs.get(i)[0];
                int y = p.pairs.get(i)[1];
                markRead(x);
                markRead(y);
                for (int k = 0; k < info(x).size; k++) {
                    long a = state().objs.get(x)[k];
                    long b = state().objs.get(y)[k];
                    if (ref(slot(x, k))) p.refer(x, k, (int) a, (int) b);
                    else if (a != b) p.row(1, x, k, a, b);
                }
            }
            for (int j = 0; j < p.fresh.size(); j++) {
                int y = p.fresh.get(j);
                markRead(y);
                for (int k = 0; k < info(y).size; k++) {
                    long b = state().objs.get(y)[k];
                    if (b == 0) continue;
                    if (ref(slot(y, k))) p.refer(-j - 1, k, 0, (int) b);
                    else p.row(1, -j - 1, k, 0, b);
                }
            }
        } catch (Fail f) {
            return -12;
        }
        rows = p.out;
        return rows.size();
    }
    long row(int r, int what) { return r < 0 || r >= rows.size() || what < 0 || what > 4 ? 0 : rows.get(r)[what]; }
    int apply() {
        if (!changing()) return -13;
        Map<Long, Integer> freshType = new HashMap<>();
        int objects = 0;
        int cells = 0;
        Set<Integer> touched = new TreeSet<>();
        for (long[] r : rows) {
            if (r[0] == 2) {
                freshType.put(r[1], (int) r[2]);
                objects++;
                String t = types.get((int) r[2]);
                cells += t.startsWith("[") ? (int) r[3] : fieldsOf(decl(t)).size();
                continue;
            }
            String type;
            if (r[1] > 0) {
                int x = (int) r[1];
                if (!isAlive(x) || !hasCells(x) || r[2] >= info(x).size) return -15;
                if (readCell(x, (int) r[2]) != r[3]) return -15;
                touched.add(x);
                type = info(x).type;
            } else {
                type = types.get(freshType.get(r[1]));
            }
            if (ref(slot(type, (int) r[2])) && r[4] > 0 && !isAlive(r[4])) return -15;
        }
        int more = 0;
        for (int x : touched) if (!viewTx.created.contains(x) && !viewTx.changed.contains(x)) more += info(x).size;
        if (!room(objects, cells) || total + more > 60000) return -12;
        Map<Long, Integer> numbers = new HashMap<>();
        for (long[] r : rows) {
            if (r[0] == 2) {
                String t = types.get((int) r[2]);
                numbers.put(r[1], newObject(t, t.startsWith("[") ? (int) r[3] : fieldsOf(decl(t)).size()));
                continue;
            }
            int x = r[1] > 0 ? (int) r[1] : numbers.get(r[1]);
            claim(x);
            long v = r[4];
            if (v < 0 && ref(slot(x, (int) r[2]))) v = numbers.get(v);
            state().objs.get(x)[(int) r[2]] = v;
        }
        return 0;
    }

    // ---------- collection and log
    int sweep(int version) {
        if (!opened()) return -13;
        if (!versions.containsKey(version)) return -14;
        if (viewVersion >= 0 && viewVersion < version) return -1;
        for (Tx t : txs.values()) if (t.begun < version) return -1;
        List<Ver> states = new ArrayList<>(versions.tailMap(version).values());
        Set<Integer> stay = new TreeSet<>();
        for (Tx t : txs.values()) states.add(t.state);
        for (Ver s : states) for (int r : s.roots) if (r != 0) stay.add(r);
        for (Tx t : txs.values()) {
            stay.addAll(t.created);
            stay.addAll(t.changed);
            stay.addAll(t.read);
            for (int o : t.state.objs.keySet()) for (String c : t.classes) if (sub(info(o).type, c)) stay.add(o);
        }
        Deque<Integer> open = new ArrayDeque<>(stay);
        while (!open.isEmpty()) {
            int x = open.pop();
            for (Ver s : states) {
                long[] c = s.objs.get(x);
                if (c == null) continue;
                for (int k = 0; k < c.length; k++) if (ref(slot(x, k)) && c[k] != 0 && stay.add((int) c[k])) open.add((int) c[k]);
            }
        }
        TreeSet<Integer> all = new TreeSet<>();
        for (Ver v : versions.values()) all.addAll(v.objs.keySet());
        for (int t = fixed + 1; t < next; t++) if (infos.containsKey(t) && info(t).text != null && !goneTexts.contains(t)) all.add(t);
        all.removeAll(stay);
        ByteArrayOutputStream o = new ByteArrayOutputStream();
        o.write(2);
        number(o, version, 4);
        number(o, all.size(), 4);
        for (int x : all) number(o, x, 4);
        byte[] rec = sealed(o);
        if (log.length + rec.length > 40000) return -12;
        append(rec);
        versions = new TreeMap<>(versions.tailMap(version));
        for (int x : all) {
            if (info(x).text != null) goneTexts.add(x);
            for (Ver v : versions.values()) v.objs.remove(x);
            for (Tx t : txs.values()) t.state.objs.remove(x);
        }
        return all.size();
    }
    static byte[] sealed(ByteArrayOutputStream body) {
        ByteArrayOutputStream o = new ByteArrayOutputStream();
        number(o, body.size() + 12, 4);
        byte[] b = body.toByteArray();
        o.write(b, 0, b.length);
        long s = 0;
        for (byte x : o.toByteArray()) s = Long.rotateLeft(s ^ (x & 255), 27) * 0x9E3779B97F4A7C15L;
        number(o, s, 8);
        return o.toByteArray();
    }
    void append(byte[] rec) {
        written.add(rec);
        int n = log.length;
        log = Arrays.copyOf(log, n + rec.length);
        System.arraycopy(rec, 0, log, n, rec.length);
    }
    byte[] commitRecord(Tx t) {
        ByteArrayOutputStream o = new ByteArrayOutputStream();
        o.write(1);
        number(o, versions.lastKey() + 1, 4);
        number(o, next, 4);
        TreeSet<Integer> all = new TreeSet<>(t.changed);
        all.addAll(t.created);
        for (int x = since; x < next; x++) if (infos.containsKey(x) && info(x).text != null && !goneTexts.contains(x)) all.add(x);
        number(o, all.size(), 4);
        for (int x : all) {
            number(o, x, 4);
            o.write(info(x).type.length());
            for (char c : info(x).type.toCharArray()) o.write(c);
            number(o, info(x).size, 4);
            if (info(x).text != null) for (char c : info(x).text.toCharArray()) o.write(c);
            else for (long v : t.state.objs.get(x)) number(o, v, 8);
        }
        number(o, t.rootsChanged.size(), 4);
        for (int r : t.rootsChanged) {
            o.write(r);
            number(o, t.state.roots[r], 4);
        }
        return sealed(o);
    }
    int logged() { return log.length; }
    int logAt(int i) { return i < 0 || i >= log.length ? -1 : log[i] & 255; }
    int poke(int i, int mask) {
        if (!closed || i < 0 || i >= log.length) return 0;
        log[i] ^= (byte) mask;
        return 1;
    }
    int crash(int n) {
        if (!opened() || n < 0) return 0;
        if (!written.isEmpty()) {
            byte[] last = written.get(written.size() - 1);
            if (n < last.length) log = Arrays.copyOf(log, log.length - last.length + n);
        }
        closed = true;
        args.clear();
        place = -1;
        clash = -1;
        code = 0;
        answered = 0;
        stepsTold = 0;
        answerRows = new ArrayList<>();
        answerKinds = new ArrayList<>();
        found = new ArrayList<>();
        graph = new byte[0];
        rows = new ArrayList<>();
        txs.clear();
        commits.clear();
        lastTx = 0;
        viewTx = null;
        viewVersion = -1;
        while (types.size() > textTypes) types.remove(types.size() - 1);
        return 1;
    }
    int reopen() {
        if (!closed) return -13;
        if (openings == 20) return -12;
        openings++;
        closed = false;
        infos.keySet().removeIf(t -> t > fixed);
        goneTexts.clear();
        versions.clear();
        next = fixed + 1;
        elements = 0;
        Ver v = new Ver();
        int version = 0;
        int p = 0;
        List<byte[]> whole = new ArrayList<>();
        try {
            for (byte[] rec : written) {
                if (p + rec.length > log.length || !Arrays.equals(rec, Arrays.copyOfRange(log, p, p + rec.length))) break;
                p += rec.length;
                whole.add(rec);
                DataInputStream in = new DataInputStream(new ByteArrayInputStream(rec));
                in.readInt();
                if (in.readByte() == 1) {
                    version = in.readInt();
                    int nextThen = in.readInt();
                    int n = in.readInt();
                    for (int i = 0; i < n; i++) {
                        int t = in.readInt();
                        byte[] d = new byte[in.readByte()];
                        in.readFully(d);
                        String type = str(d);
                        makeType(type);
                        int size = in.readInt();
                        boolean isNew = !infos.containsKey(t);
                        Info f = new Info();
                        f.type = type;
                        f.size = size;
                        infos.put(t, f);
                        if (type.equals(TXT)) {
                            byte[] b = new byte[size];
                            in.readFully(b);
                            f.text = str(b);
                        } else {
                            long[] c = new long[size];
                            for (int k = 0; k < size; k++) c[k] = in.readLong();
                            v.objs.put(t, c);
                            if (isNew) elements += size;
                        }
                    }
                    int r = in.readInt();
                    for (int i = 0; i < r; i++) v.roots[in.readByte()] = in.readInt();
                    next = nextThen;
                } else {
                    in.readInt();
                    int n = in.readInt();
                    for (int i = 0; i < n; i++) {
                        int t = in.readInt();
                        v.objs.remove(t);
                        infos.remove(t);
                    }
                }
            }
        } catch (IOException e) {
            throw new IllegalStateException(e);
        }
        written = whole;
        log = Arrays.copyOf(log, p);
        versions.put(version, v);
        since = next;
        return version;
    }
}
