import java.io.ByteArrayOutputStream;
import java.io.OutputStream;
import java.lang.reflect.Array;
import java.lang.reflect.Constructor;
import java.lang.reflect.Field;
import java.lang.reflect.InvocationTargetException;
import java.lang.reflect.Method;
import java.net.URI;
import java.util.ArrayList;
import java.util.Arrays;
import java.util.HashMap;
import java.util.IdentityHashMap;
import java.util.LinkedHashMap;
import java.util.List;
import java.util.Map;
import java.util.Random;
import javax.tools.Diagnostic;
import javax.tools.DiagnosticCollector;
import javax.tools.FileObject;
import javax.tools.ForwardingJavaFileManager;
import javax.tools.JavaFileManager;
import javax.tools.JavaFileObject;
import javax.tools.SimpleJavaFileObject;
import javax.tools.ToolProvider;

/**
 * Bodies of methods that Java reads in the same way, run by Java itself: both must take the same ones, and answer the
 * same values, or fail for the same reason.
 */
public final class JavaRuns {
    /** In Java, $ stands for public static, @ for public; in # come the methods that are made up. */
    private static final String CLASSES = "interface I{int k(int x);default long w(int x){return k(x)*2L;}}"
        + "interface J extends I{default long w(int x){return k(x)*3L+x;}}"
        + "interface Z{default int u(){return 5;}}"
        + "$abstract class P implements I{@boolean z;@byte b;@short s;@char c;@int i;@long l;@float f;@double d;@P p;@Object o;@Text t;@int[] a;@P[] pa;@I ii;@E e;"
        + "@R r;@long[][] ll;@int k(int x){return x+i;}@abstract double h(double x);@int u(){return 6;}#P#}"
        + "$class Q extends P implements J,Z{@int q;@Q n;@double h(double x){return x*2.0;}#Q#}"
        + "$class S extends P{@double h(double x){return x+d;}@int k(int x){return x-i;}#S#}"
        + "$class T extends Q{@long w(int x){return 9L;}@double h(double x){return x-1.0;}}"
        + "enum E{A,B,C}"
        + "$record R(int x,P y,float g,Text t) implements Z,J{@int k(int v){return v*x;}#R#}";
    private static final String TEXT = "public static final class Text{final String s;private Text(String s){this.s=s;}"
        + "static final java.util.Map<String,Text> all=new java.util.HashMap<>();static Text of(String s){return all.computeIfAbsent(s,Text::new);}"
        + "int length(){return s.length();}char at(int i){if(i<0||i>=s.length())throw new ArrayIndexOutOfBoundsException();return s.charAt(i);}}";
    private static final int FIRST = 10;
    private static final List<String> NAMES = List.of("I", "J", "Z", "P", "Q", "S", "T", "E", "R");
    private static final List<String> PLAIN = List.of("boolean", "byte", "short", "char", "int", "long", "float", "double");
    private static final List<String> OWNERS = List.of("P", "Q", "S", "R");
    private static final String HEAD = "(int x,long y,P v,double m){return ";
    private static final int METHODS = 12;

    /** A method that is made up. */
    private static final class Body {
        private final String owner;
        private final String type;
        private final String name;
        private final String expression;
        private boolean isJava = true;

        private Body(String owner, String type, String name, String expression) {
            this.owner = owner;
            this.type = type;
            this.name = name;
            this.expression = expression;
        }
    }

    private JavaRuns() {
    }

    public static void main(String[] args) throws Exception {
        int from = args.length > 0 ? Integer.parseInt(args[0]) : 0;
        int to = args.length > 1 ? Integer.parseInt(args[1]) : 40;
        List<List<Body>> all = new ArrayList<>();
        for (int seed = from; seed < to; seed++) {
            all.add(bodies(new Random(seed)));
        }
        Compiler compiler = new Compiler();
        compiler.compile(all);
        int refused = 0;
        for (List<Body> bodies : all) {
            for (Body body : bodies) {
                if (!body.isJava) {
                    refused++;
                    Check.is("taken, but not by Java: " + body.owner + " " + body.type + " " + body.expression, isTaken(body), false);
                }
            }
            bodies.removeIf(body -> !body.isJava);
        }
        Check.is("some are refused by both", refused > 0, true);
        compiler.compile(all);
        for (int n = 0; n < all.size(); n++) {
            new Run(compiler, "G" + n, all.get(n), new Random(n + from)).compare();
        }
        Check.end("JavaRuns");
    }

    private static List<Body> bodies(Random r) {
        List<Body> bodies = new ArrayList<>();
        while (bodies.size() < OWNERS.size() * METHODS) {
            String owner = OWNERS.get(bodies.size() / METHODS);
            String type = new Maker(r, owner).any("boolean", "int", "int", "long", "long", "float", "double", "double", "P", "Object", "char", "Text");
            String expression = new Maker(r, owner).make(type, 1 + r.nextInt(5));
            if (expression.length() < 400) {
                bodies.add(new Body(owner, type, "m" + bodies.size(), expression));
            }
        }
        return bodies;
    }

    private static boolean isTaken(Body body) {
        ObjectHouse x = new ObjectHouse();
        Check.tray(x, houseText(List.of(body)));
        return x.declare() == NAMES.size();
    }

    private static String houseText(List<Body> bodies) {
        return text(bodies, "", "");
    }

    /** The class text, with this before each method and this behind it. */
    private static String text(List<Body> bodies, String before, String behind) {
        String text = CLASSES.replace("@", before);
        for (String owner : OWNERS) {
            StringBuilder methods = new StringBuilder();
            for (Body body : bodies) {
                if (body.owner.equals(owner)) {
                    methods.append(before).append(body.type).append(" ").append(body.name).append(HEAD).append(body.expression).append(";}").append(behind);
                }
            }
            text = text.replace("#" + owner + "#", behind + methods);
        }
        return text.replace("$", before.isEmpty() ? "" : "public static ");
    }

    /** Makes expressions that Java and the class text read in the same way. */
    private static final class Maker {
        private static final Map<String, Map<String, String>> FIELDS = new LinkedHashMap<>();
        private static final Map<String, String> PARAMETERS = Map.of("x", "int", "y", "long", "v", "P", "m", "double");
        private static final String BELOW = " P<I Q<P Q<I Q<J Q<Z S<P S<I T<Q T<P T<I T<J T<Z R<Z R<I R<J J<I ";
        // How tightly what was made last binds, from 0 (?:) and 1 (||) to 11 (unary) and 12 (all others).
        private static final int SHIFT = 8;
        private static final int UNARY = 11;
        private static final int WHOLE = 12;
        private final Random r;
        private final String self;
        private int level;

        static {
            String p = "boolean z;byte b;short s;char c;int i;long l;float f;double d;P p;Object o;Text t;int[] a;P[] pa;I ii;E e;R r;long[][] ll";
            FIELDS.put("P", fields(p));
            FIELDS.put("Q", fields(p + ";int q;Q n"));
            FIELDS.put("S", FIELDS.get("P"));
            FIELDS.put("T", FIELDS.get("Q"));
            FIELDS.put("R", fields("int x;P y;float g;Text t"));
        }

        private Maker(Random r, String self) {
            this.r = r;
            this.self = self;
        }

        private static Map<String, String> fields(String text) {
            Map<String, String> fields = new LinkedHashMap<>();
            for (String field : text.split(";")) {
                fields.put(field.split(" ")[1], field.split(" ")[0]);
            }
            return fields;
        }

        private String any(String... words) {
            return words[r.nextInt(words.length)];
        }

        private String number() {
            return PLAIN.get(1 + r.nextInt(7));
        }

        private static int rank(String type) {
            return PLAIN.indexOf(type);
        }

        private static boolean isBelow(String a, String b) {
            if (a.equals(b) || rank(a) < 0 && b.equals("Object")) {
                return true;
            }
            boolean areArrays = a.endsWith("[]") && b.endsWith("[]");
            return areArrays ? rank(element(a)) < 0 && rank(element(b)) < 0 && isBelow(element(a), element(b)) : BELOW.contains(" " + a + "<" + b + " ");
        }

        private static String element(String array) {
            return array.substring(0, array.length() - 2);
        }

        private String as(int newLevel, String expression) {
            level = newLevel;
            return expression;
        }

        /** An expression of this type for a place where nothing that binds less tightly may stand. */
        private String part(String type, int depth, int least) {
            String expression = make(type, depth - 1);
            if (level < least || r.nextInt(12) == 0) {
                return as(WHOLE, "(" + expression + ")");
            }
            return expression;
        }

        private String binary(int newLevel, String left, String operator, String right, int depth) {
            String a = part(left, depth, newLevel);
            String b = part(right, depth, newLevel + 1);
            return as(newLevel, a + operator + (b.startsWith("-") ? " " : "") + b);
        }

        private String make(String type, int depth) {
            if (depth <= 0 || r.nextInt(9) == 0) {
                return leaf(type);
            }
            int way = r.nextInt(20);
            String expression = way == 0 ? choice(type, depth) : way <= 2 ? field(type, depth) : way == 3 ? cast(type, depth) : way == 4 ? element(type, depth)
                : way == 5 ? call(type, depth) : null;
            if (expression != null) {
                return expression;
            }
            if (type.equals("boolean")) {
                return truth(depth);
            }
            if (type.equals("char") && r.nextBoolean()) {
                return as(WHOLE, part("Text", depth, WHOLE) + ".at(" + part(any("int", "char", "short"), depth, 0) + ")");
            }
            return rank(type) >= rank("int") ? arithmetic(type, depth) : leaf(type);
        }

        private String leaf(String type) {
            List<String> names = new ArrayList<>();
            PARAMETERS.forEach((name, t) -> names.addAll(isBelow(t, type) ? List.of(name) : List.of()));
            FIELDS.get(self).forEach((name, t) -> names.addAll(isBelow(t, type) ? PARAMETERS.containsKey(name) ? List.of("this." + name) : List.of(name, "this." + name) : List.of()));
            names.addAll(isBelow(self, type) ? List.of("this") : List.of());
            names.sort(null);
            return !names.isEmpty() && r.nextInt(4) > 0 ? as(WHOLE, names.get(r.nextInt(names.size()))) : literal(type);
        }

        private String literal(String type) {
            switch (type) {
                case "boolean": return as(WHOLE, any("true", "false"));
                case "int": return as(WHOLE, any("0", "1", "2", "7", "31", "2147483647", "65536", "3"));
                case "char": return as(WHOLE, any("'a'", "'z'", "' '"));
                case "long": return as(WHOLE, any("0L", "5L", "63L", "9223372036854775807L", "4294967296L"));
                case "double": return as(WHOLE, any("0.5", "1.5", "0.0", "100.25", "3.0", "99999999999999.0"));
                case "byte": case "short": case "float": return as(UNARY, "(" + type + ")" + any("1", "300", "70000", "2.5", "'c'"));
                case "Text": return as(WHOLE, any("\"\"", "\"a\"", "\"abc\""));
                // Behind a "(", E would begin a cast.
                case "E": return as(UNARY, "(E)E." + any("A", "B", "C"));
                default: return as(UNARY, "(" + type + ")null");
            }
        }

        // Java gives a type of its own to constants as narrow as a byte, and to references without a common type.
        private String choice(String type, int depth) {
            if (rank(type) > 0 && rank(type) < rank("int")) {
                return null;
            }
            String start = part("boolean", depth, 1) + "?";
            boolean isReference = rank(type) < 0;
            String first = isReference ? "(" + type + ")" + part(type, depth, WHOLE) : part(type, depth, 0);
            String second = part(rank(type) >= rank("int") && r.nextBoolean() ? "int" : type, depth, 0);
            return as(0, start + (isReference || r.nextBoolean() ? first + ":" + second : second + ":" + first));
        }

        private String field(String type, int depth) {
            List<String[]> all = new ArrayList<>();
            FIELDS.forEach((owner, fields) -> fields.forEach((name, t) -> all.addAll(isBelow(t, type) ? List.<String[]>of(new String[] {owner, name}) : List.of())));
            if (all.isEmpty()) {
                return null;
            }
            String[] one = all.get(r.nextInt(all.size()));
            return as(WHOLE, part(one[0], depth, WHOLE) + "." + one[1]);
        }

        private String cast(String type, int depth) {
            if (rank(type) >= 0) {
                return as(UNARY, "(" + type + ")(" + part(rank(type) == 0 ? type : number(), depth, 0) + ")");
            }
            List<String> types = new ArrayList<>();
            for (String t : List.of("P", "Q", "S", "T", "R", "E", "Text", "I", "J", "Z", "Object", "int[]", "P[]", "Q[]", "Object[]")) {
                types.addAll(isBelow(t, type) || isBelow(type, t) ? List.of(t) : List.of());
            }
            return types.isEmpty() ? null : as(UNARY, "(" + type + ")" + part(types.get(r.nextInt(types.size())), depth, UNARY));
        }

        private String element(String type, int depth) {
            for (String array : List.of("int[]", "P[]", "long[][]", "long[]")) {
                if (isBelow(element(array), type)) {
                    return as(WHOLE, part(array, depth, WHOLE) + "[" + part("int", depth, 0) + "]");
                }
            }
            return null;
        }

        private String call(String type, int depth) {
            String name = type.equals("int") ? any("k", "u") : type.equals("long") ? "w" : "h";
            if (name.equals("h") && !type.equals("double")) {
                return null;
            }
            String owner = name.equals("h") ? any("P", "Q", "T") : name.equals("u") ? any("Z", "P", "Q", "R") : any("I", "J", "P", "Q", "R");
            String argument = name.equals("u") ? "" : part(name.equals("h") ? any("double", "int", "float") : any("int", "char", "byte"), depth, 0);
            boolean isOwn = r.nextInt(3) == 0 && (self.equals("Q") || name.equals("k"));
            return as(WHOLE, (isOwn ? "" : part(owner, depth, WHOLE) + ".") + name + "(" + argument + ")");
        }

        private String truth(int depth) {
            switch (r.nextInt(9)) {
                case 0: return as(UNARY, "!" + part("boolean", depth, UNARY));
                case 1: return binary(1, "boolean", "||", "boolean", depth);
                case 2: return binary(2, "boolean", "&&", "boolean", depth);
                case 3: return binary(3, "boolean", "|", "boolean", depth);
                case 4: return r.nextBoolean() ? binary(4, "boolean", "^", "boolean", depth) : binary(5, "boolean", "&", "boolean", depth);
                case 5: {
                    String[] types = any("P Object", "P I", "Q P", "Text Text", "E E", "I P", "I Z", "R J", "Object int[]", "P[] Object", "R Object", "Z P").split(" ");
                    return binary(6, types[0], any("==", "!="), types[1], depth);
                }
                case 6: {
                    String[] types = any("Object P", "P Q", "P J", "I R", "I P", "Object P[]", "Object E", "Z T", "Object Text", "P P", "Object int[]", "P[] Q[]").split(" ");
                    return as(7, part(types[0], depth, SHIFT) + " instanceof " + types[1]);
                }
                case 7: return r.nextBoolean() ? binary(6, "boolean", any("==", "!="), "boolean", depth) : binary(6, number(), any("==", "!="), number(), depth);
                default: return as(7, part(number(), depth, SHIFT) + any("<", ">", "<=", ">=") + part(number(), depth, SHIFT));
            }
        }

        private String arithmetic(String type, int depth) {
            boolean isWhole = rank(type) <= rank("long");
            String other = PLAIN.get(type.equals("int") || r.nextBoolean() ? 1 + r.nextInt(4) : 1 + r.nextInt(rank(type)));
            boolean isSwapped = r.nextBoolean();
            String left = isSwapped ? other : type;
            String right = isSwapped ? type : other;
            switch (r.nextInt(isWhole ? 9 : 5)) {
                case 0: {
                    String inner = part(type, depth, UNARY);
                    return as(UNARY, "-" + (inner.startsWith("-") ? " " : "") + inner);
                }
                case 1: case 2: return binary(9, left, any("+", "-"), right, depth);
                case 3: case 4: return binary(10, left, any("*", "/", "%"), right, depth);
                case 5: return binary(3, left, "|", right, depth);
                case 6: return r.nextBoolean() ? binary(4, left, "^", right, depth) : binary(5, left, "&", right, depth);
                case 7: return binary(SHIFT, type, any("<<", ">>", ">>>"), any("byte", "char", "int", "long"), depth);
                default: return r.nextBoolean() ? as(UNARY, "~" + part(type, depth, UNARY)) : length(type);
            }
        }

        private String length(String type) {
            return type.equals("int") && !self.equals("R") ? as(WHOLE, any("a.length", "pa.length", "e.number", "t.length()", "v.a.length", "v.e.number")) : literal(type);
        }
    }

    /** Compiles class texts as Java, and marks the bodies that Java refuses. */
    private static final class Compiler {
        private final Map<String, ByteArrayOutputStream> classes = new HashMap<>();
        private ClassLoader loader;

        private static JavaFileObject source(String name, String text) {
            return new SimpleJavaFileObject(URI.create("string:///" + name + ".java"), JavaFileObject.Kind.SOURCE) {
                @Override
                public CharSequence getCharContent(boolean isLenient) {
                    return text;
                }
            };
        }

        private static String javaText(String name, List<Body> bodies) {
            String text = text(bodies, "public ", "\n").replace("enum E{A,B,C}", "public enum E{A,B,C;final int number=ordinal();}");
            return "public class " + name + "{" + TEXT + text.replaceAll("\"([^\"]*)\"", "Text.of(\"$1\")") + "}";
        }

        void compile(List<List<Body>> all) throws Exception {
            classes.clear();
            Map<String, List<Body>> bodies = new HashMap<>();
            List<JavaFileObject> sources = new ArrayList<>();
            for (int n = 0; n < all.size(); n++) {
                String text = javaText("G" + n, all.get(n));
                bodies.put(text, all.get(n));
                sources.add(source("G" + n, text));
            }
            DiagnosticCollector<JavaFileObject> told = new DiagnosticCollector<>();
            ToolProvider.getSystemJavaCompiler().getTask(null, files(), told, List.of("-nowarn", "-Xmaxerrs", "100000"), null, sources).call();
            for (Diagnostic<? extends JavaFileObject> d : told.getDiagnostics()) {
                if (d.getKind() == Diagnostic.Kind.ERROR) {
                    String text = d.getSource().getCharContent(true).toString();
                    String line = text.split("\n")[(int) d.getLineNumber() - 1];
                    bodies.get(text).stream().filter(body -> line.contains(" " + body.name + "(")).forEach(body -> body.isJava = false);
                }
            }
            loader = new ClassLoader() {
                @Override
                protected Class<?> findClass(String name) throws ClassNotFoundException {
                    ByteArrayOutputStream bytes = classes.get(name);
                    if (bytes == null) {
                        throw new ClassNotFoundException(name);
                    }
                    return defineClass(name, bytes.toByteArray(), 0, bytes.size());
                }
            };
        }

        private JavaFileManager files() {
            return new ForwardingJavaFileManager<JavaFileManager>(ToolProvider.getSystemJavaCompiler().getStandardFileManager(null, null, null)) {
                @Override
                public JavaFileObject getJavaFileForOutput(Location where, String name, JavaFileObject.Kind kind, FileObject sibling) {
                    ByteArrayOutputStream bytes = new ByteArrayOutputStream();
                    classes.put(name, bytes);
                    return new SimpleJavaFileObject(URI.create("mem:///" + name + ".class"), kind) {
                        @Override
                        public OutputStream openOutputStream() {
                            return bytes;
                        }
                    };
                }
            };
        }
    }

    /** The same objects in Java and in a house, and the same calls on them. */
    private static final class Run {
        private final Compiler compiler;
        private final String name;
        private final List<Body> bodies;
        private final Random r;
        private ObjectHouse x;
        private final Map<Object, Integer> numbers = new IdentityHashMap<>();
        private final Map<String, List<Object>> objects = new HashMap<>();

        private Run(Compiler compiler, String name, List<Body> bodies, Random r) {
            this.compiler = compiler;
            this.name = name;
            this.bodies = bodies;
            this.r = r;
        }

        void compare() throws Exception {
            x = Check.open(houseText(bodies));
            build();
            for (Body body : bodies) {
                for (int n = 0; n < 3; n++) {
                    compare(body);
                }
            }
        }

        private void compare(Body body) throws Exception {
            Object target = one(body.owner);
            Object[] arguments = {value("int"), value("long"), value("P"), value("double")};
            x.argument(4, bits("int", arguments[0]));
            x.argument(5, bits("long", arguments[1]));
            x.argument(8, bits("P", arguments[2]));
            x.argument(7, bits("double", arguments[3]));
            int code = Check.call(x, (int) bits("P", target), body.name, 100000);
            long answered = x.answered();
            String told = body.owner + " " + body.expression + " on " + Arrays.toString(arguments);
            Object result = null;
            int due = 0;
            try {
                Method method = target.getClass().getMethod(body.name, int.class, long.class, type("P"), double.class);
                result = method.invoke(target, arguments);
            } catch (InvocationTargetException e) {
                due = codeOf(e.getCause());
            }
            // A result that would be not-a-number is one in Java, and may be lost on the way.
            boolean isNoNumber = code == -8 && due != -8 && body.expression.matches("(?s).*[-+*/%].*");
            Check.is(told, isNoNumber ? due : code, due);
            if (code == 0 && due == 0) {
                Check.is(told, answered, bits(body.type, result));
            }
        }

        private static int codeOf(Throwable e) {
            return e instanceof NullPointerException ? -3 : e instanceof ArrayIndexOutOfBoundsException ? -2 : e instanceof ClassCastException ? -7
                : e instanceof ArithmeticException ? -8 : 1;
        }

        private Class<?> type(String className) throws Exception {
            return Class.forName(name + "$" + className, true, compiler.loader);
        }

        private long bits(String type, Object value) throws Exception {
            switch (type) {
                case "boolean": return (Boolean) value ? 1 : 0;
                case "char": return (Character) value;
                case "byte": case "short": case "int": case "long": return ((Number) value).longValue();
                case "float": return Check.bits((Float) value);
                case "double": return Check.bits((Double) value);
                default: return value == null ? 0 : number(value);
            }
        }

        private int number(Object object) throws Exception {
            if (object instanceof Enum<?> e) {
                return x.constant(FIRST + NAMES.indexOf("E"), e.ordinal());
            }
            if (object.getClass() == type("Text")) {
                Field s = object.getClass().getDeclaredField("s");
                s.setAccessible(true);
                return Check.text(x, (String) s.get(object));
            }
            return numbers.get(object);
        }

        private Object text(String letters) throws Exception {
            Method of = type("Text").getDeclaredMethod("of", String.class);
            of.setAccessible(true);
            return of.invoke(null, letters);
        }

        /** An object of this class or one below it. */
        private Object one(String className) {
            List<String> names = className.equals("P") ? List.of("Q", "S", "T") : className.equals("Q") ? List.of("Q", "T") : List.of(className);
            List<Object> all = objects.get(names.get(r.nextInt(names.size())));
            return all.get(r.nextInt(all.size()));
        }

        private Object add(String className, Object object, int number) {
            Check.is("number of a " + className + " is greater than 0", number > 0, true);
            objects.computeIfAbsent(className, k -> new ArrayList<>()).add(object);
            numbers.put(object, number);
            return object;
        }

        private void build() throws Exception {
            for (String className : List.of("Q", "S", "T", "Q", "S", "T")) {
                add(className, type(className).getConstructor().newInstance(), x.make(FIRST + NAMES.indexOf(className)));
            }
            for (int n = 0; n < 2; n++) {
                Object[] parts = {n + 2, n == 0 ? null : one("P"), n + 0.5f, n == 0 ? text("zz") : null};
                int t = (int) bits("Text", parts[3]);
                x.argument(4, n + 2);
                x.argument(8, bits("P", parts[1]));
                x.argument(6, bits("float", parts[2]));
                x.argument(8, t);
                Constructor<?> make = type("R").getConstructor(int.class, type("P"), float.class, type("Text"));
                add("R", make.newInstance(parts), x.record(FIRST + NAMES.indexOf("R")));
            }
            add("int[]", Array.newInstance(int.class, 3), x.array(4, 3));
            add("P[]", Array.newInstance(type("P"), 3), x.array(FIRST + NAMES.indexOf("P"), 3));
            add("Q[]", Array.newInstance(type("Q"), 3), x.array(FIRST + NAMES.indexOf("Q"), 3));
            add("long[]", Array.newInstance(long.class, 2), x.array(5, 2));
            add("long[][]", Array.newInstance(long[].class, 2), x.array(Check.kind(x, "[J"), 2));
            for (String array : List.of("int[]", "P[]", "Q[]", "long[]", "long[][]")) {
                fillArray(array, objects.get(array).get(0));
            }
            for (String className : List.of("Q", "S", "T")) {
                for (Object object : objects.get(className)) {
                    fill(object);
                }
            }
        }

        private void fillArray(String array, Object object) throws Exception {
            String type = Maker.element(array);
            for (int i = 0; i < Array.getLength(object); i++) {
                Object value = value(type);
                Array.set(object, i, value);
                Check.is("set", x.set(numbers.get(object), i, Math.min(8, PLAIN.contains(type) ? PLAIN.indexOf(type) : 8), bits(type, value)), 0);
            }
        }

        private void fill(Object object) throws Exception {
            int t = numbers.get(object);
            int kind = x.kindOf(t);
            for (Field field : object.getClass().getFields()) {
                String type = field.getType().getSimpleName();
                Object value = value(type);
                field.set(object, value);
                long bits = bits(type, value);
                Check.tray(x, field.getName());
                Check.is("put", x.put(t, x.named(kind), PLAIN.contains(type) ? PLAIN.indexOf(type) : 8, bits), 0);
            }
        }

        private Object value(String type) throws Exception {
            boolean isSmall = r.nextInt(3) > 0;
            int small = r.nextInt(6) - 2;
            switch (type) {
                case "boolean": return r.nextBoolean();
                case "byte": return (byte) r.nextInt();
                case "short": return (short) r.nextInt();
                case "char": return (char) r.nextInt(200);
                case "int": return isSmall ? small : r.nextInt();
                case "long": return isSmall ? (long) small : r.nextLong();
                case "float": return isSmall ? (float) small : (float) r.nextGaussian() * 1e12f;
                case "double": return isSmall ? (double) small : r.nextGaussian() * 1e25;
                default: return r.nextInt(5) == 0 ? null : reference(type);
            }
        }

        private Object reference(String type) throws Exception {
            switch (type) {
                case "Text": return text(List.of("", "a", "abc", "hello").get(r.nextInt(4)));
                case "I": return one(r.nextBoolean() ? "P" : "R");
                case "E": return type("E").getEnumConstants()[r.nextInt(3)];
                case "P[]": return objects.get(r.nextBoolean() ? "P[]" : "Q[]").get(0);
                case "Object": return reference(List.of("Text", "int[]", "P[]", "P", "R", "E").get(r.nextInt(6)));
                default: return one(type);
            }
        }
    }
}
