/** Values, steps and codes of expressions, and the order of the rows of queries. */
public final class EvaluationTests {
    private static final String FIELDS = "enum E{K,L}interface I{default int v(){return 1;}}class B{int n;int v(){return 2;}}"
        + "class A extends B implements I{A a;int[] is;Object o;Text t;boolean b;double d;float f;long l;E e;B[] bs;int v(){return 3;}int r(int i){return i==0?0:r(i-1);}";

    /** Evaluates a body on object 3, whose fields are 0 but for n = 5, is = {4, 7}, o = 3, t = "hey", d = 2.5, e = L. */
    private static ObjectHouse evaluated(String type, String body, int limit, int code) {
        ObjectHouse x = Check.open(FIELDS + type + " m(){return " + body + ";}}");
        int text = Check.text(x, "hey");
        int t = x.make(13);
        x.put(t, 0, 4, 5);
        int array = x.array(4, 2);
        x.set(array, 0, 4, 4);
        x.set(array, 1, 4, 7);
        x.put(t, 2, 8, array);
        x.put(t, 3, 8, t);
        x.put(t, 4, 8, text);
        x.put(t, 6, 7, Check.bits(2.5));
        x.put(t, 9, 8, 2);
        Check.is("call " + body, Check.call(x, t, "m", limit), -code);
        return x;
    }

    private static void is(String type, String body, long due, int steps) {
        ObjectHouse x = evaluated(type, body, 1000, 0);
        Check.is(body, x.answered(), due);
        Check.is("steps of " + body, x.steps(), steps);
        if (steps > 0) {
            x = evaluated(type, body, steps - 1, 10);
            Check.is("steps of " + body, x.steps(), steps - 1);
            Check.is("answered", x.answered(), 0);
        }
        evaluated(type, body, steps, 0);
    }

    private static void fails(String type, String body, int code, int steps) {
        ObjectHouse x = evaluated(type, body, 1000, code);
        Check.is("steps of " + body, x.steps(), steps);
        Check.is("answered", x.answered(), 0);
    }

    public static void main(String[] args) {
        numbers();
        casts();
        references();
        quantifiers();
        failures();
        dispatch();
        depth();
        rows();
        Check.end("EvaluationTests");
    }

    private static void numbers() {
        is("int", "7", 7, 0);
        is("int", "n", 5, 1);
        is("int", "2147483647+1", -2147483648L, 1);
        is("long", "2147483647+1L", 2147483648L, 1);
        is("int", "-7/2", -3, 2);
        is("int", "-7%3", -1, 2);
        is("int", "(-2147483647-1)/-1", -2147483648L, 4);
        is("int", "(-2147483647-1)%-1", 0, 4);
        is("long", "(-9223372036854775807L-1)/-1", Long.MIN_VALUE, 4);
        is("int", "1-2-3", -4, 2);
        is("int", "2+3*4", 14, 2);
        is("int", "1<<33", 2, 1);
        is("long", "1L<<33", 1L << 33, 1);
        is("int", "-1>>>28", 15, 2);
        is("int", "-16>>2", -4, 2);
        is("long", "-1L>>>60", 15, 2);
        is("int", "6&3|8^1", 6 & 3 | 8 ^ 1, 3);
        is("int", "~5", -6, 1);
        is("int", "-'a'", -97, 1);
        is("int", "'a'+1", 98, 1);
        is("double", "0.1+0.2", Check.bits(0.1 + 0.2), 1);
        is("double", "1/2+1.0", Check.bits(1.0), 2);
        is("float", "(float)1/3", Check.bits(1f / 3), 2);
        is("double", "(float)1/3", Check.bits((double) (1f / 3)), 2);
        is("double", "-0.0", Check.bits(-0.0), 1);
        is("double", "1.0/0.0", Check.bits(1.0 / 0.0), 1);
        is("double", "-5.5%2.0", Check.bits(-5.5 % 2.0), 2);
        is("double", "5.0%(1.0/0.0)", Check.bits(5.0), 2);
        is("double", "-4.0%2.0", Check.bits(-0.0), 2);
        is("float", "(float)5.5%(float)0.1", Check.bits(5.5f % 0.1f), 3);
        is("double", "123456789012.345%0.001", Check.bits(123456789012.345 % 0.001), 1);
        is("double", "0.00000000000001", Check.bits(1.0 / 1e14), 0);
        is("float", "16777217", Check.bits(16777216f), 0);
        is("boolean", "16777217==(float)16777216", 1, 2);
        is("boolean", "0.0==-0.0", 1, 2);
        is("boolean", "0.0<-0.0", 0, 2);
        is("boolean", "1<2&2.5>=n/2.0", 1, 5);
        is("boolean", "true&&false||true", 1, 2);
        is("boolean", "false&&n>0", 0, 1);
        is("boolean", "true||n>0", 1, 1);
        is("boolean", "false&n>0", 0, 3);
        is("boolean", "!b^b", 1, 4);
        is("boolean", "b==false", 1, 2);
        is("int", "b?n:7", 7, 2);
        is("long", "b?1L:n", 5, 3);
        is("double", "b?1.5:'a'", Check.bits(97.0), 2);
    }

    private static void casts() {
        is("int", "(byte)200", -56, 1);
        is("int", "(char)-1", 65535, 2);
        is("int", "(short)70000", 4464, 1);
        is("int", "(int)3000000000.0", 2147483647, 1);
        is("int", "(int)-2.9", -2, 2);
        is("long", "(long)1000000000000000000L", 1000000000000000000L, 1);
        is("long", "(long)(1.0/0.0)", Long.MAX_VALUE, 2);
        is("int", "(char)(-1.0/0.0)", 0, 3);
        is("int", "(byte)300.7", 44, 1);
        is("float", "(float)0.1", Check.bits(0.1f), 1);
        is("float", "9223372036854775807L", Check.bits(9.223372036854775807E18f), 0);
        is("double", "(double)(float)0.1", Check.bits((double) 0.1f), 2);
        is("boolean", "(boolean)true", 1, 1);
        is("Object", "(A)null", 0, 1);
        is("Object", "(A)o", 4, 2);
        is("boolean", "o instanceof B", 1, 2);
        is("boolean", "o instanceof I&o instanceof A&!(o instanceof int[])", 1, 9);
        is("boolean", "a instanceof A", 0, 2);
        is("boolean", "null instanceof Text", 0, 1);
        fails("Object", "(Text)o", 7, 2);
        fails("Object", "(int[])o", 7, 2);
        fails("Object", "(B[])(Object)o", 7, 3);
    }

    private static void references() {
        is("A", "this", 4, 0);
        is("boolean", "this==o&&a==null&&t==\"hey\"", 1, 8);
        is("int", "this.n", 5, 1);
        is("int", "is.length", 2, 2);
        is("int", "is[1]", 7, 2);
        is("int", "is[is.length-1]", 7, 5);
        is("int", "e.number", 1, 2);
        is("int", "E.K.number", 0, 1);
        is("boolean", "e==E.L", 1, 2);
        is("int", "t.length()", 3, 2);
        is("int", "t.at(1)", 'e', 2);
        is("int", "\"abc\".at(2)", 'c', 1);
        is("int", "v()", 3, 1);
        is("int", "((B)this).v()+((I)this).v()", 6, 5);
        is("int", "r(3)", 0, 1 + 4 * 2 + 3 * 2);
    }

    private static void quantifiers() {
        is("int", "sum x in is:x", 11, 1 + 1 + 2);
        is("int", "count x in is:x>4", 1, 2 + 2 * 2);
        is("boolean", "exists x in is:x==4", 1, 2 + 2);
        is("boolean", "all x in is:x==4", 0, 2 + 2 * 2);
        is("boolean", "all x in is:x>0", 1, 2 + 2 * 2);
        is("boolean", "exists x in is:false", 0, 2 + 2);
        is("int", "sum x in A:x.n", 5, 1 + 2);
        is("int", "sum x in B:x.v()", 3, 1 + 2);
        is("int", "count x in I:true", 1, 2);
        is("int", "sum x in E:x.number", 1, 1 + 2 * 2);
        is("double", "sum x in is:(float)x", Check.bits(11.0), 2 + 2 * 2);
        is("long", "sum x in is:2147483647L", 4294967294L, 2 + 2);
        is("int", "sum x in is:2147483647", -2, 2 + 2);
        is("double", "sum x in is:-0.0", Check.bits(0.0), 2 + 2 * 2);
        is("int", "sum x in is:sum y in is:x*y", 121, 2 + 2 * (1 + 2 + 2 * 2));
        is("int", "sum n in is:n", 11, 4);
        is("boolean", "all x in is:exists y in A:y.is[1]>=x", 1, 2 + 2 * (2 + 4));
    }

    private static void failures() {
        fails("int", "1/0", 8, 1);
        fails("int", "1%(n-5)", 8, 3);
        fails("long", "1L/0", 8, 1);
        fails("double", "0.0/0.0", 8, 1);
        fails("double", "1.0%0", 8, 1);
        fails("double", "1.0/0.0-1.0/0.0", 8, 3);
        fails("double", "0.0*(1.0/0.0)", 8, 2);
        fails("float", "(float)(1.0/0.0)%2", 8, 3);
        fails("double", "sum x in is:x==4?1.0/0.0:-1.0/0.0", 8, 2 + 2 * 3 + 3);
        fails("int", "a.n", 3, 2);
        fails("int", "a.v()", 3, 2);
        fails("int", "a.is[9]", 3, 2);
        fails("int", "a.is.length", 3, 2);
        fails("int", "((int[])null)[9]", 3, 2);
        fails("int", "((int[])null).length", 3, 2);
        fails("int", "((Text)null).length()", 3, 2);
        fails("int", "((Text)null).at(-1)", 3, 3);
        fails("int", "((E)null).number", 3, 2);
        fails("int", "sum x in (int[])null:x", 3, 2);
        fails("int", "is[2]", 2, 2);
        fails("int", "is[-1]", 2, 3);
        fails("int", "t.at(3)", 2, 2);
        fails("int", "t.at(-1)", 2, 3);
        fails("int", "is[1/0]", 8, 2);
    }

    private static void dispatch() {
        ObjectHouse x = Check.open("interface I{int f();default int g(){return 10+f();}}interface J extends I{default int g(){return 20+f();}}"
            + "abstract class P implements I{int h(){return g();}}class C extends P{int f(){return 1;}}class D extends C implements J{int f(){return 2;}}"
            + "class F extends D{int g(){return 30;}}record R(int n) implements J{int f(){return n;}}");
        int c = x.make(13);
        int d = x.make(14);
        int f = x.make(15);
        Check.is("c.h", Check.call(x, c, "h", 100), 0);
        Check.is("c.h", x.answered(), 11);
        Check.is("d.h", Check.call(x, d, "h", 100), 0);
        Check.is("d.h", x.answered(), 22);
        Check.is("f.h", Check.call(x, f, "h", 100), 0);
        Check.is("f.h", x.answered(), 30);
        x.argument(4, 7);
        int r = x.record(16);
        Check.is("r.g", Check.call(x, r, "g", 100), 0);
        Check.is("r.g", x.answered(), 27);
    }

    private static void depth() {
        // The call by the method call is the first one; there are at most 30.
        is("int", "r(27)", 0, 1 + 28 * 2 + 27 * 2);
        evaluated("int", "r(28)", 1000, 0);
        evaluated("int", "r(29)", 1000, 9);
        ObjectHouse x = Check.open(FIELDS + "}");
        x.make(13);
        Check.is("ask", Check.ask(x, "from a in A give a.r(29)", 1000), 1);
        Check.is("ask", Check.ask(x, "from a in A give a.r(30)", 1000), -9);
    }

    private static void rowsAre(ObjectHouse x, String query, long... due) {
        Check.is("ask " + query, Check.ask(x, query, 1000), due.length);
        for (int i = 0; i < due.length; i++) {
            Check.is("row " + i + " of " + query, x.answer(i, 0), due[i]);
        }
    }

    private static void rows() {
        ObjectHouse x = Check.open("enum E{K,L,M}class A{double d;Text t;int n;A a;}");
        double[] d = {0.0, -0.0, 1.5, -1.5, 0.0};
        String[] t = {"b", "ab", "a", "", null};
        for (int i = 0; i < 5; i++) {
            int o = x.make(11);
            x.put(o, 0, 7, Check.bits(d[i]));
            x.put(o, 2, 4, i);
            if (t[i] != null) {
                x.put(o, 1, 8, Check.text(x, t[i]));
            }
        }
        rowsAre(x, "from a in A give a.n", 0, 1, 2, 3, 4);
        rowsAre(x, "from a in A order a.d give a.n", 3, 1, 0, 4, 2);
        rowsAre(x, "from a in A order a.d down give a.n", 2, 0, 4, 1, 3);
        rowsAre(x, "from a in A order (float)a.d give a.n", 3, 1, 0, 4, 2);
        rowsAre(x, "from a in A order a.t give a.n", 4, 3, 2, 1, 0);
        rowsAre(x, "from a in A order a.t down give a.n", 0, 1, 2, 3, 4);
        rowsAre(x, "from a in A order a.n>1 give a.n", 0, 1, 2, 3, 4);
        rowsAre(x, "from a in A order a.n>1 down give a.n", 2, 3, 4, 0, 1);
        rowsAre(x, "from a in A order 'x' give a.n", 0, 1, 2, 3, 4);
        rowsAre(x, "from a in A,e in E where a.n<2 give a.n*10+e.number", 0, 1, 2, 10, 11, 12);
        rowsAre(x, "from a in A,b in A where a.n<b.n&&b.n<3 order -b.n give a.n*10+b.n", 2, 12, 1);
        rowsAre(x, "from a in A where false give a.n");
        Check.is("ask", Check.ask(x, "from a in A,b in (A[])null give 1", 9), -22);
        x.array(11, 2);
        Check.is("ask", Check.ask(x, "from a in A,b in (A[])null give 1", 9), -3);
        Check.is("steps()", x.steps(), 2);
        Check.is("ask", Check.ask(x, "from b in (A[])null give 1", 9), -3);
        Check.is("steps()", x.steps(), 1);
        Check.is("ask", Check.ask(x, "from a in A where a.n>0 order a.d give a,a.t", 1000), 4);
        Check.is("steps()", x.steps(), 5 * 3 + 4 * 2);
    }
}
