import java.util.function.IntPredicate;

/** The sentences of section 3 that name a boundary: which expressions have a type, which one, and where the errors are. */
public final class ExpressionSentences {
    /** The classes: 10 I, 11 J, 12 P, 13 Q, 14 X, 15 E, 16 R, 17 S, 18 H, 19 W, 20 V. */
    private static final String HOUSE = "interface I{}interface J extends I{}class P implements I{}class Q extends P{}class X{}enum E{K,L}record R() implements "
        + "I{}record S(){}interface H{}abstract class W{}"
        + "class V{boolean z;byte b;short s;char c;int i;long j;float f;double d;Object o;Text t;I k;J l;P p;Q q;X x;E e;R r;S u;H h;W w;int[] ai;P[] ap;Q[] aq;I[] "
        + "ak;Object[] ao;int[][] aai;"
        + "E[] ae;long[] aj;}";
    private static final String[] FIELDS = "z b s c i j f d o t k l p q x e r u h w ai ap aq ak ao aai ae aj".split(" ");
    private static final String[] NAMES = ("boolean byte short char int long float double Object Text I J P Q X E R S H W int[] P[] Q[] I[] Object[] int[][] "
        + "E[] long[]").split(" ");
    private static final int ARRAYS = 20;
    private static final int NULL = 28;
    private static final int[] KINDS = {0, 1, 2, 3, 4, 5, 6, 7, 8, 9, 10, 11, 12, 13, 14, 15, 16, 17, 18, 19, 21, 22, 23, 24, 25, 26, 27, 28, 8};

    /** The house of has, which is taken as often as an object may be called. */
    private static final int MOST_USES = 40;
    private static String text = HOUSE;
    private static ObjectHouse house;
    private static int uses = MOST_USES;

    public static void main(String[] args) {
        thisObject();
        names();
        members();
        calls();
        castsOfPlain();
        castsOfReferences();
        operators();
        comparisons();
        choices();
        instances();
        quantifiers();
        results();
        positions();
        Check.end("ExpressionSentences");
    }

    /** An expression of this type. */
    private static String of(int type) {
        return type == NULL ? "null" : "v." + FIELDS[type];
    }

    private static boolean isNumber(int type) {
        return type >= 1 && type <= 7;
    }

    private static boolean isInteger(int type) {
        return type >= 1 && type <= 5;
    }

    private static boolean isReference(int type) {
        return type >= 8;
    }

    private static boolean isFace(int type) {
        return type == 10 || type == 11 || type == 18;
    }

    private static boolean isClass(int type) {
        return type >= 12 && type <= 14 || type == 19;
    }

    /** Written out by hand: which of the reference types are below which. */
    private static boolean isBelow(int a, int b) {
        if (a == b || b == 8 || a == NULL) {
            return true;
        }
        String known = " J<I P<I Q<P Q<I R<I P[]<I[] Q[]<P[] Q[]<I[] P[]<Object[] Q[]<Object[] I[]<Object[] int[][]<Object[] E[]<Object[] ";
        return b != NULL && known.contains(" " + NAMES[a] + "<" + NAMES[b] + " ");
    }

    private static boolean isCastable(int a, int b) {
        return a == NULL || b == NULL || isBelow(a, b) || isBelow(b, a) || isFace(a) && (isFace(b) || isClass(b)) || isFace(b) && isClass(a);
    }

    private static boolean widens(int a, int b) {
        String known = " b<s b<i b<j b<f b<d s<i s<j s<f s<d c<i c<j c<f c<d i<j i<f i<d j<f j<d f<d ";
        return a < 8 && b < 8 && known.contains(" " + FIELDS[a] + "<" + FIELDS[b] + " ");
    }

    private static boolean fits(int a, int b) {
        return a == b && a != NULL || widens(a, b) || isReference(a) && isReference(b) && isBelow(a, b);
    }

    /** The expression has this type (as answerKind tells it); or -1: an error at the §. */
    private static void has(int kind, String marked) {
        if (uses == MOST_USES) {
            house = Sentence.run("`" + text + "` declare() begin()=1");
            uses = 0;
        }
        uses++;
        if (kind < 0) {
            Sentence.refusedQuery(house, 2, "from v in V give " + marked);
            return;
        }
        Sentence.run(house, "`from v in V where false give " + marked.replace("\u00a7", "") + "` ask(9)=0 place()=-1 answerKind(0)=" + kind);
    }

    private static void open(String classes) {
        text = classes;
        uses = MOST_USES;
    }

    private static int wider(int... types) {
        int most = 4;
        for (int t : types) {
            most = Math.max(most, t);
        }
        return most;
    }

    private static void thisObject() {
        Sentence.of("In a method, this is the object on which the method was called; its type is the class, record or interface that declares the method.");
        ObjectHouse x = Sentence.declared(4, "interface I{int f();default I g(){return this;}default int h(){return this.f();}}class A implements I{int n;int "
            + "f(){return this.n;}A a(){return this;}}"
            + "class B extends A{int f(){return 7;}}record R(int n) implements I{int f(){return this.n;}R r(){return this;}}");
        Sentence.run(x, "begin()=1 make(11)=1 make(12)=2 put(1,0,4,5)=0 argument(4,6)=1 record(13)=3 `g`call(1,9)=0 answered()=1 `g`call(2,9)=0 answered()=2 "
            + "`g`call(3,9)=0 answered()=3"
            + " `h`call(1,9)=0 answered()=5 `h`call(2,9)=0 answered()=7 `h`call(3,9)=0 answered()=6 `a`call(2,9)=0 answered()=2 `r`call(3,9)=0 answered()=3");
        Sentence.refused(2, "interface I{default int f(){return this.§n;}}class A implements I{int n;}");
        Sentence.refused(2, "class B extends A{int n;}class A{int f(){return this.§n;}}");
        Sentence.refused(2, "class B extends A{}class A{B f(){§return this;}}");
        Sentence.refused(2, "interface I{default A f(){§return this;}}class A implements I{}");
        Sentence.of("In a query, this is not allowed (position: this; for a call without an object, the name).");
        Sentence.refusedQuery(x, 2, "from a in A give §this");
        Sentence.refusedQuery(x, 2, "from a in A give §this.n");
        Sentence.refusedQuery(x, 2, "from a in A give §f()");
        Sentence.refusedQuery(x, 2, "from a in A give §nothing(1)");
        Sentence.refusedQuery(x, 2, "from a in A where §this==a give 1");
        Sentence.refusedQuery(x, 2, "from a in §this give 1");
        Sentence.refusedQuery(x, 2, "from a in §f() give 1");
        Sentence.of("NAME \"(\" ... \")\" means this \".\" NAME \"(\" ... \")\".");
        Sentence.run(x, "`g`call(2,9)=0 answered()=2 `h`call(2,9)=0 answered()=7");
        Sentence.refused(2, "class A{int f(int i){return §g(i);}}class B extends A{int g(int i){return i;}}");
        Sentence.refused(2, "class A{int f(int i){return i;}int g(){return f(§f);}}");
        // The only parts of a call without an object are its arguments: their errors come before that of the call.
        Sentence.of("a call without an object has only its arguments as parts");
        ObjectHouse p = Sentence.declared(1, "class P{int n;P q;int t(){return q==null?n:n+q.t();}}");
        Sentence.run(p, "begin()=1");
        Sentence.refusedQuery(p, 2, "from p in P give t(§q)");
        Sentence.refusedQuery(x, 2, "from a in A give f(§y)");
        Sentence.refusedQuery(x, 2, "from a in A give nothing(§y)");
        Sentence.refusedQuery(x, 2, "from a in A give f(1,§y,z)");
        Sentence.refusedQuery(x, 2, "from a in A give f(a,true§+1)");
        Sentence.refusedQuery(x, 2, "from a in A give f(§f(1))");
        Sentence.refusedQuery(x, 2, "from a in A give f(f(1,§y))");
        Sentence.refusedQuery(x, 2, "from a in A give f(§f(1),y)");
        Sentence.refusedQuery(x, 2, "from a in A give 1+f(§this)");
        Sentence.refusedQuery(x, 2, "from a in A give f(§this.n,y)");
        Sentence.refusedQuery(x, 2, "from a in A give §y+f(y)");
        Sentence.refusedQuery(x, 2, "from a in A give §f(a)+y");
        Sentence.refusedQuery(x, 2, "from a in A give f(§y)+z");
        Sentence.refusedQuery(x, 2, "from a in A give f(§y).z");
        Sentence.refusedQuery(x, 2, "from a in A give §f(a).z");
        Sentence.refusedQuery(x, 2, "from a in A give a.f(§y)");
        Sentence.refusedQuery(x, 2, "from a in A give a.f(§g(a))");
        Sentence.refusedQuery(x, 2, "from a in A where f(§y) give z");
        Sentence.refusedQuery(x, 2, "from a in A order f(§y) give z");
        Sentence.refusedQuery(x, 2, "from a in f(§y) give z");
        Sentence.refusedQuery(x, 2, "from a in A give exists b in f(§y):z");
        Sentence.refusedQuery(x, 2, "from a in A give f(exists a in A:§y)");
    }

    private static void names() {
        Sentence.of("A NAME alone means the innermost name introduced by a quantifier (or by a from part of a query) that is equal to it, else the parameter, else the "
            + "field of this (declared in its class or a parent).");
        ObjectHouse x = Sentence.declared(2, "class A extends B{int f(int n){return n;}int g(){return n;}int h(int n,int[] a){return (sum n in a:n+(sum n in "
            + "a:n))+n;}int k(int[] n){return sum n in n:n;}}class B{int n;}");
        Sentence.run(x, "begin()=1 make(10)=1 put(1,0,4,5)=0 array(4,2)=2 set(2,0,4,1)=0 set(2,1,4,2)=0 argument(4,7)=1 `f`call(1,9)=0 answered()=7 `g`call(1,9)=0 "
            + "answered()=5"
            + " argument(4,7)=1 argument(8,2)=2 `h`call(1,99)=0 answered()=16 argument(8,2)=1 `k`call(1,9)=0 answered()=3");
        Sentence.answered(x, "from n in A give (exists n in B:n.n==5)?n.n:1", 5);
        Sentence.refusedQuery(x, 2, "from a in A give §n");
        Sentence.refusedQuery(x, 2, "from a in A give (sum n in A:n.n)+§n");
        Sentence.refused(2, "class A{int f(int p){return 1;}int g(){return §p;}}");
        Sentence.refused(2, "class B extends A{int n;}class A{int f(){return §n;}}");
        Sentence.refused(2, "class A{int f(){return §f;}}");
        Sentence.refused(2, "class A{A f(){return §A;}}");
        Sentence.refused(2, "enum E{K}class A{E f(){return §K;}}");
        Sentence.of("NAME \".\" NAME, where the first name is none of these but that of an enumeration, means the constant of this enumeration.");
        has(15, "E.K");
        has(4, "E.L.number");
        has(-1, "E.§M");
        has(-1, "E.§k");
        has(-1, "E.§number");
        has(-1, "E.§length");
        has(-1, "E.K.§L");
        has(-1, "§P.K");
        has(-1, "§I.x");
        has(-1, "§R.x");
        has(-1, "§Object.x");
        has(-1, "§Text.x");
        has(-1, "§E");
        has(-1, "§E.f()");
        has(-1, "§E[0]");
        has(-1, "§Nothing.x");
        Sentence.declared(2, "enum E{K,length,number}class A{E e;E f(){return E.length;}int g(){return E.number.number+e.number;}}");
    }

    private static void members() {
        Sentence.of("x \".\" length, x an array, has type int. x \".\" number, x of an enumeration type, is the position of the constant (int, from 0)."
            + " x \".\" NAME otherwise is the field of this name of the class or record that is the type of x.");
        for (int k = 0; k <= NULL; k++) {
            boolean isArray = k >= ARRAYS && k != NULL;
            has(isArray ? 4 : -1, of(k) + ".§length");
            has(k == 15 ? 4 : -1, of(k) + ".§number");
            has(-1, of(k) + ".§nothing");
        }
        has(20, "v");
        for (int k = 0; k < NULL; k++) {
            has(KINDS[k], of(k));
        }
        ObjectHouse x = Sentence.declared(3, "class A{int length;int number;int at(){return length+this.number;}}class B extends A{}record R(long length,A a){long "
            + "f(){return length+a.length;}}");
        Sentence.run(x, "begin()=1 make(11)=1 put(1,0,4,3)=0 put(1,1,4,4)=0 argument(4,9)=1 argument(8,1)=2 record(12)=2 `at`call(1,9)=0 answered()=7 `f`call(2,9)=0 "
            + "answered()=12");
        Sentence.refused(2, "class A{int f(A[] a){return a.§n;}int n;}");
        Sentence.refused(2, "interface I{int n();}class A{int f(I i){return i.§n;}}");
    }

    private static void calls() {
        Sentence.of("x \".\" NAME \"(\" ... \")\" means the method of this name of the type of x: its own one, else the one of the nearest parent, else the one of an "
            + "interface at any distance (all these have the same types).");
        ObjectHouse x = Sentence.declared(6, "interface I{int f();default int g(){return 1;}}interface J extends I{}abstract class P implements J{abstract int "
            + "h();}class Q extends P{int f(){return 2;}int h(){return 3;}}"
            + "record R() implements J{int f(){return 4;}}class Z{int z(){return 5;}}");
        Sentence.run(x, "begin()=1 make(13)=1 record(14)=2");
        Sentence.answered(x, "from i in I give i.f()*10+i.g()", 21, 41);
        Sentence.answered(x, "from i in J give i.f()*10+i.g()", 21, 41);
        Sentence.answered(x, "from i in P give i.f()*100+i.g()*10+i.h()", 213);
        Sentence.refusedQuery(x, 2, "from i in J give i.§h()");
        Sentence.refusedQuery(x, 2, "from i in P give i.§z()");
        Sentence.refusedQuery(x, 2, "from i in P give ((Object)i).§f()");
        Sentence.refusedQuery(x, 2, "from i in P give (1).§f()");
        Sentence.refusedQuery(x, 2, "from i in P give null.§f()");
        Sentence.refused(2, "enum E{K}class A{int f(E e){return e.§f(e);}}");
        Sentence.refused(2, "class A{int f(A[] a){return a.§f(a);}}");
        Sentence.refused(2, "class A{int f;int g(){return this.§f();}}");
        Sentence.refused(2, "class A{int g(){return §f();}}");
        Sentence.of("There must be as many arguments as parameters, and each argument must fit its parameter.");
        StringBuilder methods = new StringBuilder();
        for (int k = 0; k < NULL; k++) {
            methods.append(NAMES[k]).append(" m").append(k).append("(").append(NAMES[k]).append(" a){return a;}");
        }
        // No class has more than 20 methods: two classes share them.
        String half = methods.substring(0, methods.indexOf("int[] m" + ARRAYS));
        open(HOUSE + "class M{" + half + "}class N{" + methods.substring(half.length()) + "}");
        for (int from = 0; from <= NULL; from++) {
            for (int to = 0; to < NULL; to++) {
                String receiver = to < ARRAYS ? "((M)null)" : "((N)null)";
                int kind = to < ARRAYS ? KINDS[to] : KINDS[to] + 2;
                has(fits(from, to) ? kind : -1, receiver + ".§m" + to + "(" + of(from) + ")");
            }
        }
        has(-1, "((M)null).§m4()");
        has(-1, "((M)null).§m4(1,2)");
        has(-1, "((M)null).§m4(true,2)");
        open(HOUSE);
        Sentence.refused(2, "class A{int f(){return 1;}int g(){return §f(1);}}");
        Sentence.refused(2, "class A{int f(int a,long b){return 1;}int g(){return §f(1L,1L);}}");
        Sentence.declared(1, "class A{int f(int a,long b,double c,Object d,A e,byte f,char g,boolean h){return 1;}int g(byte b){return "
            + "f('a',b,1L,this,null,b,'b',true);}}");
        // The arguments are widened, each one as its parameter wants it.
        ObjectHouse y = Sentence.declared(1, "class A{double mix(int a,double b,float c,long d,double e){return a/2*10000+b/2*1000+c/2*100+d/2*10+e/2;}double "
            + "m(){return mix('a'-94,3,5L,(byte)7,(float)9);}}");
        Sentence.run(y, "begin()=1 make(10)=1 `m`call(1,99)=0 answered()=11784.5d");
        Sentence.answered(y, "from a in A give a.mix((byte)3,3L,5,'a'-90,9)", Check.bits(11784.5));
        Sentence.of("A Text has the methods length ( ), of type int, and at ( int ), of type char.");
        has(4, "v.t.length()");
        has(-1, "v.t.§length(1)");
        has(-1, "v.t.§at()");
        has(-1, "v.t.§at(1,2)");
        has(-1, "v.t.§size()");
        has(-1, "v.t.§at");
        for (int k = 0; k <= NULL; k++) {
            has(k >= 1 && k <= 4 ? 3 : -1, "v.t.§at(" + of(k) + ")");
            has(k == 9 ? 4 : -1, of(k) + ".§length()");
        }
        Sentence.of("for an index the \"[\",");
        for (int k = 0; k <= NULL; k++) {
            has(k >= 1 && k <= 4 ? 4 : -1, "v.ai§[" + of(k) + "]");
            has(k >= ARRAYS && k < NULL ? element(k) : -1, of(k) + "§[0]");
        }
    }

    private static int element(int array) {
        return new int[] {4, 12, 13, 10, 8, 21, 15, 5}[array - ARRAYS];
    }

    private static void castsOfPlain() {
        Sentence.of("A plain type can be cast to another one if both are numbers (types 1 to 7), or to itself; the result is as in Java.");
        for (int from = 0; from <= NULL; from++) {
            for (int to = 0; to < 8; to++) {
                has(isNumber(from) && isNumber(to) || from == to ? to : -1, "§(" + NAMES[to] + ")" + of(from));
            }
        }
        long[] longs = {0, 1, -1, 127, 128, 255, 256, -128, -129, 32767, 32768, -32769, 65535, 65536, 2147483647L, 2147483648L, -2147483648L, -2147483649L, 4294967296L,
            Long.MAX_VALUE, Long.MIN_VALUE,
            16777217L, 9007199254740993L, 0x7fffffbfffffffffL, 0x7fffff4000000001L};
        double inf = Double.POSITIVE_INFINITY;
        double[] doubles = {0.0, -0.0, 0.5, -0.5, 0.99, -0.99, 1.5, 127.9, 128.0, -129.0, 32768.0, 65535.9, 65536.0, -1.0, 2147483647.0, 2147483648.0, -2147483649.0,
            4294967296.0 * 3, 9.3e18, -9.3e18,
            9223372036854774784.0, 1e300, -1e300, inf, -inf, 3.4028235677973366e38, 3.4028235677973362e38, 1.401298464324817e-45, 0.7006492321624085e-45,
            0.7006492321624086e-45, 1e-310, 4.9e-324,
            1.1754943508222875e-38, 1.1754942807573643e-38, 16777217.0, 0.1, 1.0 / 3};
        for (long j : longs) {
            ObjectHouse x = casting();
            Sentence.run(x, "put(1,0,5," + j + ")=0 put(1,3,4," + (int) j + ")=0");
            valuesAre(x, "jb", (byte) j, "js", (short) j, "jc", (char) j, "ji", (int) j, "jf", Check.bits((float) j), "jd", Check.bits((double) j), "ic", (char) (int) j,
                "if_", Check.bits((float) (int) j));
        }
        for (double d : doubles) {
            float f = (float) d;
            ObjectHouse x = casting();
            Sentence.run(x, "put(1,1,7," + Check.bits(d) + ")=0 put(1,2,6," + Check.bits(f) + ")=0");
            valuesAre(x, "db", (byte) d, "ds", (short) d, "dc", (char) d, "di", (int) d, "dj", (long) d, "df", Check.bits((float) d), "fb", (byte) f, "fi", (int) f, "fj",
                (long) f, "fd", Check.bits((double) f));
        }
    }

    private static ObjectHouse casting() {
        ObjectHouse x = Sentence.declared(1, "class M{long j;double d;float f;int i;"
            + "byte jb(){return (byte)j;}short js(){return (short)j;}char jc(){return (char)j;}int ji(){return (int)j;}float jf(){return (float)j;}double jd(){return "
            + "(double)j;}"
            + "byte db(){return (byte)d;}short ds(){return (short)d;}char dc(){return (char)d;}int di(){return (int)d;}long dj(){return (long)d;}float df(){return "
            + "(float)d;}"
            + "byte fb(){return (byte)f;}int fi(){return (int)f;}long fj(){return (long)f;}double fd(){return (double)f;}char ic(){return (char)i;}float if_(){return "
            + "(float)i;}}");
        Sentence.run(x, "begin()=1 make(10)=1");
        return x;
    }

    private static void valuesAre(ObjectHouse x, Object... pairs) {
        for (int i = 0; i < pairs.length; i += 2) {
            Object v = pairs[i + 1];
            long due = v instanceof Character c ? c : ((Number) v).longValue();
            Sentence.run(x, "`" + pairs[i] + "` call(1,9)=0 steps()=2 answered()=" + due);
        }
    }

    private static void castsOfReferences() {
        Sentence.of("A reference type can be cast to another one if one of the two is a subtype of the other one, or one is an interface and the other one is a class "
            + "or an interface (not a record, an enumeration,"
            + " an array type or Text). null can be cast to every reference type.");
        for (int from = 0; from <= NULL; from++) {
            for (int to = 8; to < NULL; to++) {
                has(isReference(from) && isCastable(from, to) ? KINDS[to] : -1, "§(" + NAMES[to] + ")" + of(from));
            }
        }
    }

    private static void matrix(String sentence, String operator, java.util.function.IntBinaryOperator due) {
        for (int a = 0; a <= NULL; a++) {
            for (int b = 0; b <= NULL; b++) {
                int kind = due.applyAsInt(a, b);
                has(kind, of(a) + "\u00a7" + operator + of(b));
            }
        }
    }

    private static void operators() {
        Sentence.of("+ - * / % and unary - : numbers, widened to int, or to the widest of their types if it is long, float or double; the result has this type.");
        for (String s : new String[] {"+", "-", "*", "/", "%"}) {
            matrix("", s, (a, b) -> isNumber(a) && isNumber(b) ? wider(a, b) : -1);
        }
        Sentence.of("~ : an integer, likewise.");
        unary("-", ExpressionSentences::isNumber, -1);
        unary("~", ExpressionSentences::isInteger, -1);
        Sentence.of("! && || : booleans.");
        unary("!", k -> k == 0, 0);
        matrix("", "&&", (a, b) -> a == 0 && b == 0 ? 0 : -1);
        matrix("", "||", (a, b) -> a == 0 && b == 0 ? 0 : -1);
        Sentence.of("<< >> >>> : integers, each one widened to at least int; the result has the type of the left one.");
        for (String s : new String[] {"<<", ">>", ">>>"}) {
            matrix("", s, (a, b) -> isInteger(a) && isInteger(b) ? wider(a) : -1);
        }
        Sentence.of("& ^ | : two booleans (both sides are evaluated), or two integers.");
        for (String s : new String[] {"&", "^", "|"}) {
            matrix("", s, (a, b) -> a == 0 && b == 0 ? 0 : isInteger(a) && isInteger(b) ? wider(a, b) : -1);
        }
    }

    private static void unary(String sign, IntPredicate allowed, int kind) {
        for (int k = 0; k <= NULL; k++) {
            has(!allowed.test(k) ? -1 : kind >= 0 ? kind : wider(k), "\u00a7" + sign + of(k));
        }
    }

    private static void comparisons() {
        Sentence.of("< > <= >= : numbers.");
        for (String s : new String[] {"<", ">", "<=", ">="}) {
            matrix("", s, (a, b) -> isNumber(a) && isNumber(b) ? 0 : -1);
        }
        Sentence.of("== != : two numbers, or two booleans, or two references one of which can be cast to the type of the other one, or of which one is null.");
        for (String s : new String[] {"==", "!="}) {
            matrix("", s, (a, b) -> isNumber(a) && isNumber(b) || a == 0 && b == 0 || isReference(a) && isReference(b) && isCastable(a, b) ? 0 : -1);
        }
    }

    private static void choices() {
        Sentence.of("c ? x : y : c is boolean; x and y are both numbers (the type is theirs if both have the same one, else the wider one, at least int), or both "
            + "boolean, or both references"
            + " (the type is that of the one that the other one fits; null fits every reference type; of two nulls it is that of null).");
        for (int a = 0; a <= NULL; a++) {
            has(a == 0 ? 4 : -1, of(a) + "§?1:2");
            for (int b = 0; b <= NULL; b++) {
                int kind = -1;
                if (isNumber(a) && isNumber(b)) {
                    kind = a == b ? a : wider(a, b);
                } else if (a == 0 && b == 0) {
                    kind = 0;
                } else if (isReference(a) && isReference(b)) {
                    kind = a == NULL ? KINDS[b] : b == NULL ? KINDS[a] : isBelow(a, b) ? KINDS[b] : isBelow(b, a) ? KINDS[a] : -1;
                }
                has(kind, "v.z§?" + of(a) + ":" + of(b));
            }
        }
    }

    private static void instances() {
        Sentence.of("x instanceof T : x is a reference, T a reference type to which x can be cast (or x is null).");
        for (int a = 0; a <= NULL; a++) {
            for (int b = 0; b < NULL; b++) {
                has(isReference(a) && isReference(b) && isCastable(a, b) ? 0 : -1, of(a) + " §instanceof " + NAMES[b]);
            }
            has(-1, of(a) + " instanceof §Nothing");
            has(-1, of(a) + " instanceof §byte[]");
        }
    }

    private static void quantifiers() {
        Sentence.of("The source is an array; or it is a single name that is no name of a quantifier, from part or parameter, but that of a class, record, enumeration "
            + "or interface of the class text:");
        for (int k = 0; k <= NULL; k++) {
            boolean isArray = k >= ARRAYS && k < NULL;
            has(isArray ? 0 : -1, "exists §y in " + of(k) + ":true");
            has(isArray ? element(k) >= 1 && element(k) <= 7 ? element(k) : -1 : -1, "sum §y in " + of(k) + ":y");
        }
        for (int k = 0; k < NULL; k++) {
            if (k >= 10 && k < ARRAYS) {
                has(4, "count y in " + NAMES[k] + ":true");
                has(0, "exists y in " + NAMES[k] + ":y==(" + NAMES[k] + ")null");
            }
        }
        has(-1, "exists y in §Object:true");
        has(-1, "exists y in §Text:true");
        has(-1, "exists y in §Nothing:true");
        has(-1, "exists §y in 1:true");
        has(-1, "exists §y in null:true");
        has(-1, "exists §y in E.K:true");
        Sentence.refused(1, "class A{boolean f(){return exists x in A§[]:true;}}".replace("§[]", "[§]"));
        Sentence.of("NAME stands for the elements or objects one after the other; its type is the element type, or this type. NAME must not be the name of a type.");
        for (String name : new String[] {"Object", "Text", "I", "P", "E", "R", "V"}) {
            has(-1, "exists §" + name + " in v.ai:true");
            has(-1, "exists §" + name + " in V:true");
        }
        has(0, "exists v in v.ai:v==1");
        has(4, "sum v in v.aai:sum v in v:v");
        has(4, "sum w in V:w.i");
        has(-1, "sum w in V:w.§nothing");
        has(-1, "(exists w in V:true)?§w:1");
        Sentence.of("exists and all: the expression is boolean, and the result is boolean. count: the expression is boolean, the result int. sum: the expression is a "
            + "number; the result has type int, long or double,"
            + " as the widened type of the expression (float counts as double).");
        for (int k = 0; k <= NULL; k++) {
            has(k == 0 ? 0 : -1, "exists §y in V:" + of(k));
            has(k == 0 ? 0 : -1, "all §y in V:" + of(k));
            has(k == 0 ? 4 : -1, "count §y in V:" + of(k));
            has(isNumber(k) ? k <= 4 ? 4 : k == 5 ? 5 : 7 : -1, "sum §y in V:" + of(k));
        }
    }

    private static void results() {
        Sentence.of("The type of the body of a method must fit the type of the method.");
        for (int from = 0; from <= NULL; from++) {
            for (int to = 0; to < NULL; to++) {
                String body = "class M{V v;" + NAMES[to] + " m(){\u00a7return " + of(from) + ";}}";
                if (fits(from, to)) {
                    Sentence.declared(12, HOUSE + body.replace("\u00a7", ""));
                } else {
                    Sentence.refused(2, HOUSE + body);
                }
            }
        }
    }

    private static void positions() {
        Sentence.of("Its position is that of the first token of the operator, or of the name, that is wrong: for a quantifier its name (also if its source or its "
            + "expression has a wrong type), for a cast the \"(\","
            + " for an index the \"[\", for a type that is not known its name, for an argument that does not fit and for a wrong number of arguments the name of the "
            + "method, for a body that does not fit the word return,"
            + " for a conditional expression the \"?\".");
        has(-1, "v.i  §+  v.z");
        has(-1, "v.i §>>> v.z");
        has(-1, "( §- ( v.z ) )");
        has(-1, "exists  §y  in v.i : true");
        has(-1, "exists  §y  in V : 1");
        has(-1, "§( int ) ( v.z )");
        has(-1, "( §float [ ] ) v.o");
        has(-1, "v.ai §[ v.z ]");
        has(-1, "v.o instanceof §float [ ]");
        has(-1, "v.t . §at ( v.z )");
        has(-1, "v.z §? 1 : v.z");
        has(-1, "v.i §? 1 : 2");
        has(-1, "v . §nothing");
        has(-1, "v.o §instanceof int");
        Sentence.refused(2, "class A{int f(){ §return ( true ) ;}}");
        Sentence.of("Errors of parts (of a cast its expression; an error of the type that it names is of the whole) come before errors of the whole, and those of a "
            + "left part before those of a right part;"
            + " the source of a quantifier comes before its name, and its expression last.");
        has(-1, "(float[])§a");
        has(-1, "(int)§a");
        has(-1, "(boolean)(1§+true)");
        has(-1, "§a instanceof Nothing");
        has(-1, "§a instanceof int");
        has(-1, "§a+b");
        has(-1, "§(boolean)1+b");
        has(-1, "true+§b");
        has(-1, "§a[b]");
        has(-1, "1[§b]");
        has(-1, "1§[2]");
        has(-1, "§a.b(c)");
        has(-1, "v.b(§c)");
        has(-1, "v.t.at(§c,d)");
        has(-1, "v.t.at(true,§d)");
        has(-1, "v.§b(1)");
        has(-1, "nothing(§c)");
        has(-1, "§nothing(1)");
        has(-1, "§a?b:c");
        has(-1, "1?§b:c");
        has(-1, "1?2:§c");
        has(-1, "1§?2:true");
        has(-1, "§a&&b");
        has(-1, "1&&§b");
        has(-1, "1§&&2");
        has(-1, "exists E in §a:b");
        has(-1, "exists §E in v.ai:b");
        has(-1, "exists §E in 1:b");
        has(-1, "exists y in v.ai:§b");
        has(-1, "exists §y in v.ai:2");
        has(-1, "-(1§+true)");
        has(-1, "(1§+true)+(2+true)");
        has(-1, "v.i*(1§+true)");
    }
}
