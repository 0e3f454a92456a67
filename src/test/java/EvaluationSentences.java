/** The sentences of sections 4 and 10 that name a boundary: steps, failures, dispatch, queries and their rows. */
public final class EvaluationSentences {
    /** Types: 10 E, 11 I, 12 B, 13 A; objects: 1 and 2 are K and L, 3 is "hey", 4 is an A, 5 int[]{4, 7}, 6 A[]{4, null}. */
    private static final String CLASSES = "enum E{K,L}interface I{default int v(){return 1;}}class B{int n;int v(){return 2;}}class A extends B implements I{A a;int[] "
        + "is;Object o;Text t;boolean b;"
        + "double d;float f;long l;E e;A[] as;int v(){return 3;}int one(){return 1;}int add(int x,int y){return x+y;}A me(){return this;}int deep(int i){return "
        + "i<1?0:deep(i-1);}";

    private static ObjectHouse house(String more) {
        ObjectHouse x = Sentence.declared(4, CLASSES + more + "}");
        Sentence.run(x, "`hey`text()=3 begin()=1 make(13)=4 array(4,2)=5 set(5,0,4,4)=0 set(5,1,4,7)=0 array(13,2)=6 set(6,0,8,4)=0 put(4,0,4,5)=0 put(4,2,8,5)=0 "
            + "put(4,3,8,4)=0 put(4,4,8,3)=0"
            + " put(4,6,7,2.5d)=0 put(4,9,8,2)=0 put(4,10,8,6)=0");
        return x;
    }

    /** The body has this value, and needs this many steps. */
    private static void is(String type, String body, long due, int steps) {
        ObjectHouse x = house(type + " m(int p){return " + body + ";}");
        Sentence.run(x, "argument(4,9)=1 `m` call(4," + steps + ")=0 answered()=" + due + " steps()=" + steps);
        if (steps > 0) {
            Sentence.run(x, "argument(4,9)=1 `m` call(4," + (steps - 1) + ")=-10 answered()=0 steps()=" + (steps - 1));
            Sentence.run(x, "argument(4,9)=1 `m` call(4,0)=-10 answered()=0 steps()=0");
        }
        Sentence.run(x, "argument(4,9)=1 `m` call(4,100000)=0 answered()=" + due + " steps()=" + steps);
    }

    /** The body fails with this code, after this many steps; with one step less it does not come so far. */
    private static void fails(String type, String body, int code, int steps) {
        ObjectHouse x = house(type + " m(int p){return " + body + ";}");
        Sentence.run(x, "argument(4,9)=1 `m` call(4,100000)=" + -code + " answered()=0 steps()=" + steps + " argument(4,9)=1 `m` call(4," + steps + ")=" + -code
            + " steps()=" + steps);
        Sentence.run(x, "argument(4,9)=1 `m` call(4," + (steps - 1) + ")=-10 steps()=" + (steps - 1));
    }

    public static void main(String[] args) {
        steps();
        shortcuts();
        quantifiers();
        mostSteps();
        allObjects();
        failures();
        deepCalls();
        dispatch();
        arithmetic();
        queryParts();
        rowOrder();
        mostRows();
        queryErrors();
        querySteps();
        Check.end("EvaluationSentences");
    }

    private static void steps() {
        Sentence.of("Expressions are evaluated from left to right.");
        fails("int", "1/0+a.n", 8, 1);
        fails("int", "a.n+1/0", 3, 2);
        fails("int", "add(1/0,a.n)", 8, 1);
        fails("int", "a.add(1/0,2)", 8, 2);
        fails("int", "is[2]+1/0", 2, 2);
        fails("int", "a.is[1/0]", 3, 2);
        fails("int", "(b?1:1/0)+a.n", 8, 3);
        Sentence.of("Each of the following counts one step when it is executed, after its parts have been evaluated: an operator; an index; an access to a field (also "
            + "of this, by its name alone), to .length or .number;"
            + " a call (also of a method of Text); a cast; instanceof.");
        for (String s : new String[] {"1+2", "1-2", "1*2", "1/2", "1%2", "1&2", "1|2", "1^2", "1<<2", "1>>2", "1>>>2", "~1", "-1"}) {
            ObjectHouse x = house("int m(){return " + s + ";}");
            Sentence.run(x, "`m`call(4,0)=-10 steps()=0 `m`call(4,1)=0 steps()=1");
        }
        for (String s : new String[] {"1<2", "1>2", "1<=2", "1>=2", "1==2", "1!=2", "true==false", "null!=null", "!true", "true&true", "true|true", "true^true",
            "this instanceof B", "null instanceof B"}) {
            ObjectHouse x = house("boolean m(){return " + s + ";}");
            Sentence.run(x, "`m`call(4,0)=-10 steps()=0 `m`call(4,1)=0 steps()=1");
        }
        is("int", "n", 5, 1);
        is("int", "this.n", 5, 1);
        is("int", "is[0]", 4, 2);
        is("int", "is.length", 2, 2);
        is("int", "e.number", 1, 2);
        is("int", "one()", 1, 1);
        is("int", "this.one()", 1, 1);
        is("int", "add(1,2)", 3, 2);
        is("int", "t.length()", 3, 2);
        is("char", "t.at(1)", 'e', 2);
        is("int", "(int)1", 1, 1);
        is("double", "(double)p", Check.bits(9.0), 1);
        is("Object", "(A)null", 0, 1);
        is("Object", "(A)o", 4, 2);
        is("boolean", "(boolean)true", 1, 1);
        is("boolean", "o instanceof A", 1, 2);
        is("int", "-1", -1, 1);
        is("int", "- - 1", 1, 2);
        is("int", "((((1))))", 1, 0);
        is("int", "me().me().n", 5, 3);
        // Values that wait for a right part are kept apart from those of quantifiers.
        is("boolean", "(true&&true)==(exists q in is:q==7)", 1, 1 + 2 + 4 + 1);
        is("boolean", "(b||true)==(all q in is:q==4)", 0, 2 + 2 + 4 + 1);
        is("int", "(b?1:2)*100+(sum q in is:q)*10+add(p,sum q in is:q*p)", 200 + 110 + 9 + 99, 2 + 1 + 4 + 1 + 1 + 6 + 2 + 1);
        is("int", "add(add(1,p),(b&&b||!b)?sum q in is:q-p:0)", 10 + 4 + 7 - 18, 2 + 5 + 1 + 6 + 2);
        Sentence.of("Constants, literals, this, and names of parameters and quantifiers count nothing.");
        is("int", "7", 7, 0);
        is("long", "7L", 7, 0);
        is("double", "7", Check.bits(7.0), 0);
        is("char", "'x'", 'x', 0);
        is("Text", "\"hey\"", 1 + 2, 0);
        is("boolean", "true", 1, 0);
        is("Object", "null", 0, 0);
        is("A", "this", 4, 0);
        is("int", "p", 9, 0);
        is("E", "E.L", 2, 0);
        is("int", "E.L.number", 1, 1);
        is("int", "sum q in is:q", 11, 1 + 1 + 2);
    }

    private static void shortcuts() {
        Sentence.of("&&, || and ? count before their right parts are evaluated;");
        is("boolean", "false&&1/0==1", 0, 1);
        is("boolean", "true||1/0==1", 1, 1);
        is("boolean", "true&&false", 0, 1);
        is("boolean", "false||true", 1, 1);
        is("boolean", "true&&true&&false&&1/0==1", 0, 3);
        is("int", "true?1:1/0", 1, 1);
        is("int", "false?1/0:1", 1, 1);
        is("int", "n==5?n:1/0", 5, 4);
        fails("boolean", "true&&1/0==1", 8, 2);
        fails("boolean", "false||1/0==1", 8, 2);
        fails("boolean", "1/0==1&&true", 8, 1);
        fails("int", "true?1/0:1", 8, 2);
        fails("int", "false?1:1/0", 8, 2);
        fails("boolean", "false&1/0==1", 8, 1);
        fails("boolean", "true|1/0==1", 8, 1);
        is("long", "true?p:1L", 9, 1);
        is("double", "true?'a':1.5", Check.bits(97.0), 1);
        is("double", "false?1.5:p", Check.bits(9.0), 1);
        is("float", "true?p:(float)1", Check.bits(9f), 1);
        is("float", "false?p:(float)1", Check.bits(1f), 2);
    }

    private static void quantifiers() {
        Sentence.of("a quantifier counts after its source has been evaluated, and each object or element that it goes through counts one step more, before the "
            + "expression is evaluated for it.");
        is("int", "sum q in is:q", 11, 2 + 2);
        is("int", "sum q in is:q*q", 65, 2 + 4);
        is("int", "sum q in A:1", 1, 1 + 1);
        is("int", "count q in E:true", 2, 1 + 2);
        is("int", "sum q in (true?is:null):q", 11, 2 + 1 + 2);
        is("int", "sum q in as:1", 2, 2 + 2);
        fails("int", "sum q in (1/0==1?is:is):q", 8, 1);
        fails("int", "sum q in is:1/0", 8, 2 + 2);
        fails("int", "sum q in as:q.n", 3, 2 + 2 + 2);
        Sentence.of("exists ends with the first true result, all with the first false one (without any, exists is false and all is true).");
        is("boolean", "exists q in is:q==4", 1, 2 + 2);
        is("boolean", "exists q in is:q==7", 1, 2 + 4);
        is("boolean", "exists q in is:q==8", 0, 2 + 4);
        is("boolean", "all q in is:q==7", 0, 2 + 2);
        is("boolean", "all q in is:q==4", 0, 2 + 4);
        is("boolean", "all q in is:q<8", 1, 2 + 4);
        is("boolean", "exists q in as:q.n==5", 1, 2 + 3);
        fails("boolean", "all q in as:q.n==5", 3, 2 + 3 + 2);
        ObjectHouse x = Sentence.declared(2, "class A{int[] is;boolean e(){return exists q in is:true;}boolean f(){return all q in is:false;}int c(){return count q in "
            + "is:true;}int s(){return sum q in is:1;}"
            + "double d(){return sum q in is:1.5;}boolean z(){return exists q in Z:true;}boolean w(){return all q in Z:false;}}class Z{}");
        Sentence.run(x, "begin()=1 make(10)=1 array(4,0)=2 put(1,0,8,2)=0 `e`call(1,9)=0 answered()=0 steps()=2 `f`call(1,9)=0 answered()=1 steps()=2 `c`call(1,9)=0 "
            + "answered()=0 `s`call(1,9)=0 answered()=0"
            + " `d`call(1,9)=0 answered()=0 `z`call(1,1)=0 answered()=0 steps()=1 `w`call(1,1)=0 answered()=1 steps()=1");
        Sentence.of("sum adds up from 0, widened to the type of the result, as the operator + does.");
        is("int", "sum q in is:2147483647", -2, 4);
        is("long", "sum q in is:2147483647L", 4294967294L, 4);
        is("long", "sum q in is:9223372036854775807L", -2, 4);
        is("int", "sum q in is:'a'", 194, 4);
        is("int", "sum q in is:(byte)200", -112, 6);
        is("double", "sum q in is:0.1", Check.bits(0.0 + 0.1 + 0.1), 4);
        is("double", "sum q in is:(float)0.1", Check.bits(0.0 + (double) 0.1f + (double) 0.1f), 6);
        is("double", "sum q in is:-0.0", Check.bits(0.0), 6);
        is("double", "sum q in is:1.0/0.0", Check.bits(1.0 / 0.0), 6);
        fails("double", "sum q in is:q==4?1.0/0.0:-1.0/0.0", 8, 2 + 4 + 5);
        is("int", "count q in is:q>0", 2, 6);
        is("int", "count q in is:q>4", 1, 6);
        is("int", "count q in is:q>7", 0, 6);
    }

    private static void mostSteps() {
        Sentence.of("A step that would exceed the given number of steps fails with code 10.");
        is("int", "n+n", 10, 3);
        ObjectHouse x = Sentence.declared(1, "class A{int[] a;int[] b;int m(){return sum p in a:sum q in b:q;}int k(){return -m();}}");
        Sentence.run(x, "begin()=1 make(10)=1 array(4,249)=2 array(4,398)=3 put(1,0,8,2)=0 put(1,1,8,3)=0");
        // Each p takes 401 steps: its own, b, the inner quantifier, 398 elements; in all they are 2 + 249 * 401.
        Sentence.run(x, "`m`call(1,100000)=0 steps()=99851 `m`call(1,99851)=0 `m`call(1,99850)=-10 steps()=99850 `m`call(1,100001)=-1 steps()=0 `m`call(1,-1)=-1 "
            + "`m`call(1,0)=-10 steps()=0");
        x = Sentence.declared(1, "class A{int[] a;int[] b;int m(){return sum p in a:sum q in b:q;}}");
        Sentence.run(x, "begin()=1 make(10)=1 array(4,302)=2 array(4,328)=3 put(1,0,8,2)=0 put(1,1,8,3)=0");
        String ask = "from a in A give a.m()" + "+1".repeat(28) + ",1+1+1+1+1";
        // One object, the call, its 99964 steps, 28 and 4 additions: 99998; two more signs make it 100000.
        Sentence.run(x, "`" + ask + ",- -1` ask(100000)=1 steps()=100000 `" + ask + ",- -1` ask(99999)=-10 steps()=99999 `" + ask + ",- - -1` ask(100000)=-10 "
            + "steps()=100000 answer(0,2)=1");
        Sentence.run(x, "`" + ask + "` ask(99998)=1 steps()=99998 `" + ask + "` ask(100001)=-1 steps()=0 place()=-1 end(1)=-1 `" + ask + "` ask(-1)=-1");
    }

    /** As many objects as there may be, gone through again and again. */
    private static void allObjects() {
        Sentence.of("then it stands for all objects of this type or a subtype of it that are alive in the view (section 6), in ascending order of their numbers.");
        StringBuilder text = new StringBuilder("`enum Z{L}class Q{int[] a;}class A{}");
        StringBuilder counts = new StringBuilder("`from e in Z give (count x in A:true)");
        for (char c = 'B'; c <= 'J'; c++) {
            text.append("class ").append(c).append(" extends ").append((char) (c - 1)).append("{}");
            counts.append("+(count x in ").append(c).append(":true)");
        }
        // 1 is a constant, 2 to 3001 are of class J, 3002 is an array.
        String graph = Sentence.graph("4f47 02 03'LJ;' 02'[I' b917" + "00".repeat(3000) + "01 64" + "00000000".repeat(100));
        ObjectHouse x = Sentence.run(text + "` declare()=12 begin()=1 " + graph + " read()=2 make(12)=3003 make(11)=3004 put(3004,0,8,3002)=0");
        for (int i = 0; i < 9; i++) {
            Sentence.run(x, counts + "` ask(100000)=1 answer(0,0)=30001 steps()=" + (1 + 30001 + 10 + 9));
        }
        Sentence.run(x, "`from q in Q give count i in q.a:exists x in J:true` ask(100000)=1 answer(0,0)=100 `from x in J order 1 give x` ask(100000)=-12 steps()=1001 "
            + "drop(1)=true view(0)=true `from x in A give x` ask(0)=0");
    }

    private static void failures() {
        Sentence.of("Otherwise an evaluation fails, after its step was counted, with code 2: an index that an array or Text does not have;");
        fails("int", "is[2]", 2, 2);
        fails("int", "is[-1]", 2, 3);
        fails("int", "is[2147483647]", 2, 2);
        fails("int", "is[-2147483647-1]", 2, 4);
        is("int", "is[1]", 7, 2);
        is("int", "is[(byte)1]", 7, 3);
        fails("int", "is['a']", 2, 2);
        fails("char", "t.at(3)", 2, 2);
        fails("char", "t.at(-1)", 2, 3);
        is("char", "t.at(0)", 'h', 2);
        is("char", "t.at(2)", 'y', 2);
        ObjectHouse x = house("");
        Sentence.run(x, "`from a in A give \"\".at(0)` ask(2)=-2 steps()=2 `from a in A give \"\".at(0)` ask(1)=-10 `from a in A give \"\".length()` ask(2)=1 "
            + "answer(0,0)=0 answerKind(0)=4");
        Sentence.of("3: a field, .length, .number, a method or an index of null, or null as source;");
        fails("int", "a.n", 3, 2);
        fails("int", "((A)null).n", 3, 2);
        fails("int", "((int[])null).length", 3, 2);
        fails("int", "((E)null).number", 3, 2);
        fails("int", "a.one()", 3, 2);
        fails("int", "((I)a).v()", 3, 3);
        fails("int", "((Text)null).length()", 3, 2);
        fails("int", "((Text)null).at(0)", 3, 2);
        fails("int", "((int[])null)[0]", 3, 2);
        fails("int", "sum q in (int[])null:1", 3, 2);
        fails("boolean", "exists q in a.as:true", 3, 2);
        fails("boolean", "all q in (A[])null:true", 3, 2);
        Sentence.of("7: a cast of an object that has another type;");
        fails("Object", "(Text)o", 7, 2);
        fails("Object", "(int[])o", 7, 2);
        fails("Object", "(E)o", 7, 2);
        fails("Object", "(B[])(Object)t", 7, 3);
        fails("Object", "(A)(Object)e", 7, 3);
        fails("Object", "(long[])(Object)is", 7, 3);
        fails("Object", "(Object[])(Object)is", 7, 3);
        is("Object", "(I)o", 4, 2);
        is("Object", "(B)o", 4, 2);
        is("Object", "(B[])(Object)as", 6, 3);
        is("Object", "(I[])(Object)as", 6, 3);
        is("Object", "(Object[])(Object)as", 6, 3);
        is("Object", "(int[])(Object)is", 5, 3);
        is("Object", "(Text)(Object)t", 3, 3);
        is("Object", "(Text)(Object)null", 0, 2);
        is("boolean", "(Object)is instanceof Object[]", 0, 3);
        is("boolean", "(Object)as instanceof I[]", 1, 3);
        is("boolean", "o instanceof Text", 0, 2);
        Sentence.of("8: a division or remainder of integers by 0, or a result that would be not-a-number;");
        fails("int", "1/0", 8, 1);
        fails("int", "1%0", 8, 1);
        fails("long", "1L/0", 8, 1);
        fails("long", "1L%0", 8, 1);
        fails("int", "0/(n-5)", 8, 3);
        fails("double", "0.0/0", 8, 1);
        fails("double", "-0.0%0", 8, 2);
        is("double", "1.0/0", Check.bits(1.0 / 0), 1);
        is("double", "1/-0.0", Check.bits(-1.0 / 0), 2);
        Sentence.of("If codes 3 and 2 both apply, it is 3; 3 comes before 9.");
        fails("int", "((int[])null)[-1]", 3, 3);
        fails("int", "((Text)null).at(-1)", 3, 3);
    }

    private static void deepCalls() {
        Sentence.of("9: a method call (not that of a method of Text) inside 30 other calls (the call by the method call counts as the first one, but it counts "
            + "no step).");
        ObjectHouse x = Sentence.declared(1, "class A{Text t;A a;int d(int i){return i<1?0:d(i-1);}int e(int i){return i<1?t.length():e(i-1);}int f(int i){return "
            + "i<1?a.d(0):f(i-1);}int g(int i){return i<1?d(0):g(i-1);}"
            + "int h(int i){return i<1?a.t.length():h(i-1);}}");
        Sentence.run(x, "`hey`text()=1 begin()=1 make(10)=2 put(2,0,8,1)=0");
        Sentence.run(x, "argument(4,29)=1 `d`call(2,1000)=0 steps()=" + (30 * 2 + 29 * 2) + " argument(4,30)=1 `d`call(2,1000)=-9 steps()=" + (30 * 2 + 29 * 2 + 2));
        Sentence.run(x, "argument(4,30)=1 `d`call(2,119)=-10 steps()=119 argument(4,30)=1 `d`call(2,120)=-9");
        Sentence.run(x, "argument(4,29)=1 `e`call(2,1000)=0 answered()=3 argument(4,30)=1 `e`call(2,1000)=-9");
        Sentence.run(x, "argument(4,28)=1 `g`call(2,1000)=0 argument(4,29)=1 `g`call(2,1000)=-9 argument(4,29)=1 `f`call(2,1000)=-3 argument(4,29)=1 `h`call(2,1000)=-3");
        Sentence.run(x, "`from a in A give a.d(29)`ask(1000)=1 `from a in A give a.d(30)`ask(1000)=-9 `from a in A give a.e(29)`ask(1000)=1 `from a in A give "
            + "a.g(28)`ask(1000)=1 `from a in A give a.g(29)`ask(1000)=-9");
        // Calls that have ended do not count.
        Sentence.run(x, "`from a in A give a.d(29)+a.d(29)+a.d(a.d(29)+29)`ask(1000)=1");
        // A call after a query that called methods.
        Sentence.run(x, "`from a in A give a.d(3)`ask(1000)=1 argument(4,2)=1 `d`call(2,1000)=0 answered()=0 steps()=10 `from a in A give a.d(2)`ask(1000)=1 steps()=12");
        // A method call without steps.
        Sentence.run("`class A{int f(){return 1;}}` declare()=1 begin()=1 make(10)=1 `f`call(1,0)=0 answered()=1 steps()=0");
    }

    private static void dispatch() {
        Sentence.of("The method that is executed is the one of the class of the object itself: its own one, else that of the nearest parent, else, of all interfaces at "
            + "any distance, the one with a body such that"
            + " no other one of these interfaces that is a subtype of its interface has a method of this name with a body.");
        ObjectHouse x = Sentence.declared(11, "interface I{int f();default int g(){return 1;}}interface J extends I{default int g(){return 2;}}interface K extends "
            + "J{int g();default int f(){return 3;}}"
            + "class A implements I{int f(){return 4;}}class B extends A implements J{}class C extends B implements K{}class D extends C{int g(){return 5;}}class F "
            + "extends D implements K{}"
            + "record R() implements K,I{}class X implements K{int g(){return 6;}}class Y extends X implements I,J{}");
        String[] due = {"4 1", "4 2", "4 2", "4 5", "4 5", null, "3 6", "3 6"};
        Sentence.run(x, "begin()=1");
        int[] kinds = {13, 14, 15, 16, 17, 18, 19, 20};
        for (int i = 0; i < kinds.length; i++) {
            int t = i == 5 ? x.record(18) : x.make(kinds[i]);
            String[] values = (due[i] == null ? "3 2" : due[i]).split(" ");
            Sentence.run(x, "`f`call(" + t + ",9)=0 answered()=" + values[0] + " `g`call(" + t + ",9)=0 answered()=" + values[1]);
        }
        Sentence.answered(x, "from i in I give i.f()*10+i.g()", 41, 42, 42, 45, 45, 32, 36, 36);
        Sentence.answered(x, "from i in K give i.f()*10+i.g()", 42, 45, 45, 32, 36, 36);
        Sentence.answered(x, "from i in A give i.g()", 1, 2, 2, 5, 5);
    }

    private static void arithmetic() {
        Sentence.of("Results are as in Java.");
        int[] ints = {0, 1, -1, 2, 7, -7, 31, 32, 33, 65535, Integer.MAX_VALUE, Integer.MIN_VALUE};
        long[] longs = {0, 1, -1, 7, -7, 63, 64, 65, 4294967296L, Long.MAX_VALUE, Long.MIN_VALUE};
        double inf = Double.POSITIVE_INFINITY;
        double[] doubles = {0.0, -0.0, 1.0, -1.5, 0.1, 1e16, 1e-300, 1e300, Double.MAX_VALUE, 4.9e-324, inf, -inf};
        float[] floats = {0f, -0f, 1f, -1.5f, 0.1f, 1e10f, 1e-30f, 1e38f, Float.MAX_VALUE, 1.4e-45f, (float) inf, (float) -inf};
        String text = "class A{int i;int j;long k;long l;double d;double e;float f;float g;}";
        for (int a : ints) {
            ObjectHouse x = values(text, 0, 4, a);
            for (int b : ints) {
                x = next(x, text, 0, 4, a);
                Sentence.run(x, "put(1,1,4," + b + ")=0");
                results(x, "i", "j", b == 0, a + b, a - b, a * b, b == 0 ? 0 : a / b, b == 0 ? 0 : a % b, a << b, a >> b, a >>> b, a & b, a | b, a ^ b, a < b ? 1 : 0,
                    a >= b ? 1 : 0, a == b ? 1 : 0);
            }
        }
        for (long a : longs) {
            ObjectHouse x = values(text, 2, 5, a);
            for (long b : longs) {
                x = next(x, text, 2, 5, a);
                Sentence.run(x, "put(1,3,5," + b + ")=0");
                results(x, "k", "l", b == 0, a + b, a - b, a * b, b == 0 ? 0 : a / b, b == 0 ? 0 : a % b, a << b, a >> b, a >>> b, a & b, a | b, a ^ b, a < b ? 1 : 0,
                    a >= b ? 1 : 0, a == b ? 1 : 0);
            }
        }
        for (double a : doubles) {
            for (double b : doubles) {
                ObjectHouse x = values(text, 4, 7, Check.bits(a));
                Sentence.run(x, "put(1,5,7," + Check.bits(b) + ")=0");
                double[] due = {a + b, a - b, a * b, a / b, a % b};
                for (int i = 0; i < 5; i++) {
                    one(x, "d" + "+-*/%".charAt(i) + "e", Double.isNaN(due[i]), Check.bits(due[i]));
                }
                comparisons(x, "d", "e", a < b, a <= b, a == b);
            }
        }
        for (float a : floats) {
            for (float b : floats) {
                ObjectHouse x = values(text, 6, 6, Check.bits(a));
                Sentence.run(x, "put(1,7,6," + Check.bits(b) + ")=0");
                float[] due = {a + b, a - b, a * b, a / b, a % b};
                for (int i = 0; i < 5; i++) {
                    one(x, "f" + "+-*/%".charAt(i) + "g", Float.isNaN(due[i]), Check.bits(due[i]));
                }
                comparisons(x, "f", "g", a < b, a <= b, a == b);
            }
        }
        smallRemainders();
        allPowers();
        ObjectHouse x = values(text, 0, 4, Integer.MIN_VALUE);
        Sentence.run(x, "put(1,2,5,-9223372036854775808)=0 put(1,4,7,-0.0d)=0 put(1,6,6,-0.0f)=0");
        one(x, "-i", false, Integer.MIN_VALUE);
        one(x, "~i", false, Integer.MAX_VALUE);
        one(x, "-k", false, Long.MIN_VALUE);
        one(x, "~k", false, Long.MAX_VALUE);
        one(x, "-d", false, Check.bits(0.0));
        one(x, "-f", false, Check.bits(0f));
        one(x, "-(i<1?0.0:1.0)", false, Check.bits(-0.0));
        one(x, "i+k", false, Integer.MIN_VALUE + Long.MIN_VALUE);
        one(x, "i+f", false, Check.bits((float) Integer.MIN_VALUE));
        one(x, "k+d", false, Check.bits((double) Long.MIN_VALUE));
        one(x, "k+f", false, Check.bits((float) Long.MIN_VALUE));
        one(x, "1==f", false, 0);
        one(x, "(double)4503599627370497L%4503599627370496L", false, Check.bits(1.0));
        one(x, "(double)4503599627370498L%-4503599627370496L", false, Check.bits(2.0));
        one(x, "(float)8388609%8388608", false, Check.bits(1f));
        one(x, "(float)-8388609%8388608", false, Check.bits(-1f));
        one(x, "9007199254740991L%2.0", false, Check.bits(1.0));
        one(x, "0==f", false, 1);
        one(x, "'a'+'b'", false, 195);
        one(x, "-'a'", false, -97);
        one(x, "~'a'", false, ~97);
        one(x, "(byte)-1>>>1", false, Integer.MAX_VALUE);
        one(x, "1<<4294967297L", false, 2);
        one(x, "1L<<65", false, 2);
        one(x, "9223372036854775807L+1", false, Long.MIN_VALUE);
        one(x, "16777217==(float)16777216", false, 1);
        one(x, "9007199254740993L==(double)9007199254740992L", false, 1);
    }

    private static void smallRemainders() {
        double[] doubles = {4.9e-324, 1e-323, 1.5e-323, 3e-320, 1e-310, 2.225073858507201e-308, 2.2250738585072014e-308, 4.450147717014403e-308, 1e-307, 8.9e-308, 1.0, 1e300};
        float[] floats = {1.4e-45f, 2.8e-45f, 4.2e-45f, 1e-42f, 1e-39f, 1.1754942e-38f, 1.17549435e-38f, 2.3509887e-38f, 1e-37f, 4.8e-38f, 1f, 1e38f};
        String text = "class A{double d;double e;float f;float g;}";
        for (int i = 0; i < doubles.length; i++) {
            ObjectHouse x = values(text, 0, 7, Check.bits(doubles[i]));
            Sentence.run(x, "put(1,2,6," + Check.bits(floats[i]) + ")=0");
            for (int k = 0; k < doubles.length; k++) {
                Sentence.run(x, "put(1,1,7," + Check.bits(doubles[k]) + ")=0 put(1,3,6," + Check.bits(floats[k]) + ")=0");
                one(x, "d%e", false, Check.bits(doubles[i] % doubles[k]));
                one(x, "-d%e", false, Check.bits(-doubles[i] % doubles[k]));
                one(x, "f%g", false, Check.bits(floats[i] % floats[k]));
                one(x, "f%-g", false, Check.bits(floats[i] % -floats[k]));
            }
        }
    }

    /** Every power of two that is a double or a float, in arrays that are read as graphs. */
    private static void allPowers() {
        for (int first = -1074; first <= 1023; first += 400) {
            int n = Math.min(400, 1024 - first);
            StringBuilder graph = new StringBuilder("4f47 01 02'[D' 01 00" + (n < 128 ? String.format("%02x", n) : String.format("%02x%02x", n & 127 | 128, n >> 7)));
            for (int i = 0; i < n; i++) {
                graph.append(String.format("%016x", Check.bits(power(first + i))));
            }
            ObjectHouse x = Sentence.declared(1, "class A{double[] a;}");
            Sentence.run(x, "begin()=1 make(10)=1 " + Sentence.graph(graph.toString()) + " read()=2 put(1,0,8,2)=0 `from p in A,d in p.a give "
                + "d*1.0,d*1.5,d/3.0,(float)d` ask(100000)=" + n);
            for (int i = 0; i < n; i++) {
                double d = power(first + i);
                Check.is("2 to the power of " + (first + i), x.answer(i, 0), Check.bits(d));
                Check.is("times 1.5", x.answer(i, 1), Check.bits(d * 1.5));
                Check.is("divided by 3", x.answer(i, 2), Check.bits(d / 3.0));
                Check.is("as a float", x.answer(i, 3), Check.bits((float) d));
            }
        }
        StringBuilder graph = new StringBuilder("4f47 01 02'[F' 01 00 9502");
        for (int i = 0; i < 277; i++) {
            graph.append(String.format("%08x", Check.bits((float) power(i - 149))));
        }
        ObjectHouse x = Sentence.declared(1, "class A{float[] a;}");
        Sentence.run(x, "begin()=1 make(10)=1 " + Sentence.graph(graph.toString()) + " read()=2 put(1,0,8,2)=0 `from p in A,d in p.a give "
            + "d*1,d*(float)1.5,d/3,(double)d` ask(100000)=277");
        for (int i = 0; i < 277; i++) {
            float f = (float) power(i - 149);
            Check.is("2 to the power of " + (i - 149), x.answer(i, 0), Check.bits(f));
            Check.is("times 1.5", x.answer(i, 1), Check.bits(f * 1.5f));
            Check.is("divided by 3", x.answer(i, 2), Check.bits(f / 3f));
            Check.is("as a double", x.answer(i, 3), Check.bits((double) f));
        }
    }

    private static double power(int n) {
        return n < -1022 ? Double.longBitsToDouble(1L << n + 1074) : Double.longBitsToDouble((long) (n + 1023) << 52);
    }

    private static ObjectHouse values(String text, int field, int kind, long bits) {
        ObjectHouse x = Sentence.declared(1, text);
        Sentence.run(x, "begin()=1 make(10)=1 put(1," + field + "," + kind + "," + bits + ")=0");
        return x;
    }

    private static int turns;

    /** Another object now and then, as no object is meant for more than 512 calls. */
    private static ObjectHouse next(ObjectHouse x, String text, int field, int kind, long bits) {
        turns++;
        return turns % 3 == 0 ? values(text, field, kind, bits) : x;
    }

    private static void results(ObjectHouse x, String a, String b, boolean isZero, long... due) {
        String[] signs = {"+", "-", "*", "/", "%", "<<", ">>", ">>>", "&", "|", "^", "<", ">=", "=="};
        for (int i = 0; i < signs.length; i++) {
            one(x, a + signs[i] + b, isZero && (i == 3 || i == 4), due[i]);
        }
    }

    private static void comparisons(ObjectHouse x, String a, String b, boolean isLess, boolean isAtMost, boolean isEqual) {
        one(x, a + "<" + b, false, isLess ? 1 : 0);
        one(x, a + "<=" + b, false, isAtMost ? 1 : 0);
        one(x, a + ">" + b, false, isAtMost ? 0 : 1);
        one(x, a + ">=" + b, false, isLess ? 0 : 1);
        one(x, a + "==" + b, false, isEqual ? 1 : 0);
        one(x, a + "!=" + b, false, isEqual ? 0 : 1);
    }

    /** The value of an expression over the fields of the only object, or code 8. */
    private static void one(ObjectHouse x, String expression, boolean isWrong, long due) {
        String query = "from a in A give " + expression.replaceAll("(?<![\\w.'])([ijkldefg])(?![\\w'])", "a.$1");
        Sentence.run(x, "`" + query + "` ask(99)=" + (isWrong ? "-8" : "1 answer(0,0)=" + due));
    }

    private static void queryParts() {
        Sentence.of("(1 to 3 sources, 1 to 4 results)");
        ObjectHouse x = house("");
        Sentence.refusedQuery(x, 1, "from §give 1");
        Sentence.refusedQuery(x, 1, "from a in A§");
        Sentence.refusedQuery(x, 1, "from a in A give§");
        Sentence.refusedQuery(x, 1, "§give 1");
        Sentence.refusedQuery(x, 1, "§a in A give 1");
        Sentence.refusedQuery(x, 1, "from a in A,b in A,c in A,§d in A give 1");
        Sentence.refusedQuery(x, 1, "from a in A,b in A,c in A,§1");
        Sentence.refusedQuery(x, 1, "from a in A give 1,2,3,4,§5");
        Sentence.refusedQuery(x, 1, "from a in A give 1,2,3,4,§)");
        Sentence.run(x, "`from a in A,b in E,c in E give 1,b,c,null` ask(99)=4 answer(3,0)=1 answer(3,1)=2 answer(3,2)=2 answer(3,3)=0 answerKind(3)=8 answerKind(4)=-1 "
            + "answer(4,0)=0 answer(0,4)=0");
        Sentence.run(x, "`from a in A give a` ask(9)=1 answer(0,0)=4 answerKind(0)=13 answerKind(1)=-1 answer(0,1)=0 answer(1,0)=0");
        Sentence.refusedQuery(x, 1, "from a in A where true §where true give 1");
        Sentence.refusedQuery(x, 1, "from a in A order 1 §order 1 give 1");
        Sentence.refusedQuery(x, 1, "from a in A order 1 §where true give 1");
        Sentence.refusedQuery(x, 1, "from a in A where true §down give 1");
        Sentence.refusedQuery(x, 1, "from a in A order 1 down §down give 1");
        Sentence.refusedQuery(x, 1, "from a in A order §down give 1");
        Sentence.refusedQuery(x, 1, "from a in A where §give 1");
        Sentence.refusedQuery(x, 1, "from a §A give 1");
        Sentence.refusedQuery(x, 1, "from a in A give 1 §give 2");
        Sentence.refusedQuery(x, 1, "from a in A give 1§;");
        Sentence.refusedQuery(x, 1, "from a in A§+1 give 1");
        Sentence.refusedQuery(x, 1, "from a in §exists b in A:true give 1");
        x = house("");
        Sentence.of("Each NAME goes through its source as for a quantifier; a later source may use the names before it; the last name changes fastest.");
        Sentence.answered(x, "from a in A,i in a.is give i", 4, 7);
        Sentence.answered(x, "from i in E,j in E give i.number*10+j.number", 0, 1, 10, 11);
        Sentence.answered(x, "from a in A,b in a.as,i in a.is give i+(b==null?100:0)", 4, 7, 104, 107);
        Sentence.answered(x, "from a in A,b in (a.as[0].as) give b", 4, 0);
        Sentence.answered(x, "from a in B give a", 4);
        Sentence.refusedQuery(x, 2, "from i in §a.is,a in A give i");
        Sentence.refusedQuery(x, 2, "from a in §a give a");
        Sentence.run(x, "`from a in A,i in a.a.is give i` ask(99)=-3 steps()=3");
        Sentence.of("Where the condition of where (a boolean) is true, a row is created: the value of the order expression (a number, a boolean or a Text), and the "
            + "values of the give expressions.");
        Sentence.answered(x, "from e in E where e==E.L give e", 2);
        Sentence.answered(x, "from e in E where false give e");
        Sentence.answered(x, "from e in E where true give e", 1, 2);
        Sentence.run(x, "`from e in E where e.number==0 order 1/e.number give e` ask(99)=-8 `from e in E where e.number==1 order 1/e.number give e` ask(99)=1"
            + " `from e in E where e.number>1 order 1/0 give 1/0` ask(99)=0 `from e in E order 1 give 1/e.number` ask(99)=-8");
    }

    private static void rowOrder() {
        Sentence.of("The rows are ordered by the order value, ascending; rows with equal values stay in the order in which they were created.");
        ObjectHouse x = house("");
        Sentence.answered(x, "from i in E,j in E order j.number give i.number*10+j.number", 0, 10, 1, 11);
        Sentence.answered(x, "from i in E,j in E order -i.number-j.number give i.number*10+j.number", 11, 1, 10, 0);
        Sentence.answered(x, "from i in E,j in E order 'x' give i.number*10+j.number", 0, 1, 10, 11);
        Sentence.of("Numbers are ordered by value, with -0.0 before 0.0; false comes before true; texts are ordered by their bytes, a beginning of another text before "
            + "it; null comes before everything.");
        numbersInOrder();
        x = house("");
        Sentence.answered(x, "from i in E,j in E order i==j give i.number*10+j.number", 1, 10, 0, 11);
        Sentence.answered(x, "from i in E,j in E order i==j down give i.number*10+j.number", 0, 11, 1, 10);
        x = Sentence.declared(1, "class A{Text t;}");
        Sentence.run(x, "begin()=1");
        String[] texts = {"b", "", "ab", "a", "a ", "~", "B", "abc", " ", "Z"};
        for (int i = 0; i < texts.length; i++) {
            Sentence.run(x, "make(10)=" + (2 * i + 1) + " `" + texts[i] + "`text()=" + (2 * i + 2) + " put(" + (2 * i + 1) + ",0,8," + (2 * i + 2) + ")=0");
        }
        Sentence.run(x, "make(10)=21 make(10)=22 put(22,0,8,6)=0");
        Sentence.answered(x, "from a in A order a.t give a", 21, 3, 17, 13, 19, 7, 9, 5, 22, 15, 1, 11);
        Sentence.of("With down, the order is reversed, and rows with equal values still stay in the order in which they were created.");
        Sentence.answered(x, "from a in A order a.t down give a", 11, 1, 15, 5, 22, 9, 7, 19, 13, 17, 3, 21);
        x = house("");
        Sentence.answered(x, "from i in E,j in E order j.number down give i.number*10+j.number", 1, 11, 0, 10);
        Sentence.answered(x, "from i in E,j in E order 1 down give i.number*10+j.number", 0, 1, 10, 11);
        Sentence.of("Without order, the rows stay as they were created.");
        Sentence.answered(x, "from i in E,j in E give -i.number*10+j.number", 0, 1, -10, -9);
        manyRows();
    }

    private static void numbersInOrder() {
        double inf = Double.POSITIVE_INFINITY;
        double[] d = {0.0, -0.0, inf, -inf, 1.5, -1.5, 4.9e-324, -4.9e-324, 1e308, -1e308, 0.0, -0.0};
        long[] j = {0, -1, Long.MAX_VALUE, Long.MIN_VALUE, 1, 4294967296L, -4294967296L, 0, 2147483648L, -2147483649L, 7, 7};
        ObjectHouse x = Sentence.declared(1, "class A{double d;long j;float f;}");
        Sentence.run(x, "begin()=1");
        for (int i = 0; i < d.length; i++) {
            Sentence.run(x, "make(10)=" + (i + 1) + " put(" + (i + 1) + ",0,7," + Check.bits(d[i]) + ")=0 put(" + (i + 1) + ",1,5," + j[i] + ")=0 put(" + (i + 1)
                + ",2,6," + Check.bits((float) d[i]) + ")=0");
        }
        Sentence.answered(x, "from a in A order a.d give a", 4, 10, 6, 8, 2, 12, 1, 11, 7, 5, 9, 3);
        Sentence.answered(x, "from a in A order a.d down give a", 3, 9, 5, 7, 1, 11, 2, 12, 8, 6, 10, 4);
        // As floats 1e308 is infinite and 4.9e-324 is 0.
        Sentence.answered(x, "from a in A order a.f give a", 4, 10, 6, 2, 8, 12, 1, 7, 11, 5, 3, 9);
        Sentence.answered(x, "from a in A order a.j give a", 4, 7, 10, 2, 1, 8, 5, 11, 12, 9, 6, 3);
    }

    private static void manyRows() {
        ObjectHouse x = Sentence.declared(1, "class A{int[] a;int[] b;}");
        Sentence.run(x, "begin()=1 make(10)=1 array(4,100)=2 array(4,10)=3 put(1,0,8,2)=0 put(1,1,8,3)=0");
        int[] values = new int[100];
        for (int i = 0; i < 100; i++) {
            values[i] = i * 37 % 23;
            Sentence.run(x, "set(2," + i + ",4," + (values[i] * 1000 + i) + ")=0");
        }
        for (int i = 0; i < 10; i++) {
            Sentence.run(x, "set(3," + i + ",4," + i + ")=0");
        }
        for (int turn = 0; turn < 2; turn++) {
            boolean isDown = turn == 1;
            java.util.List<long[]> rows = new java.util.ArrayList<>();
            for (int i = 0; i < 100; i++) {
                for (int k = 0; k < 10; k++) {
                    rows.add(new long[] {values[i] * (k % 3), values[i] * 10000L + i * 10L + k});
                }
            }
            rows.sort((p, q) -> isDown ? Long.compare(q[0], p[0]) : Long.compare(p[0], q[0]));
            Sentence.run(x, "`from o in A,i in o.a,k in o.b order i/1000*(k%3)" + (isDown ? " down" : "") + " give i/1000*10000L+i%1000*10+k` ask(100000)=1000");
            for (int r = 0; r < 1000; r++) {
                Check.is("row " + r, x.answer(r, 0), rows.get(r)[1]);
            }
        }
    }

    private static void mostRows() {
        Sentence.of("There are at most 1000 rows; the row that would be the 1001st fails with code 12 after its values have been evaluated.");
        ObjectHouse x = Sentence.declared(1, "class A{int[] a;int[] b;int[] c;}");
        Sentence.run(x, "begin()=1 make(10)=1 array(4,10)=2 array(4,100)=3 array(4,101)=4 put(1,0,8,2)=0 put(1,1,8,3)=0 put(1,2,8,4)=0 set(4,100,4,5)=0");
        Sentence.run(x, "`from a in A,i in a.a,j in a.b give j` ask(100000)=1000 steps()=1022 answer(999,0)=0 answer(1000,0)=0 answerKind(0)=4");
        Sentence.run(x, "`from a in A,i in a.a,j in a.c give 2L` ask(100000)=-12 steps()=1023 answer(999,0)=0 answerKind(0)=4");
        Sentence.run(x, "`from a in A,i in a.a,j in a.c give -2` ask(100000)=-12 steps()=2024");
        // The 1001st row is the one behind 9 times 101 and 92 ones; a failure of its values comes first.
        Sentence.run(x, "set(4,91,4,7)=0 `from a in A,i in a.a,j in a.c where i==0 give 1/(7-j)` ask(100000)=-8 `from a in A,i in a.a,j in a.c where j!=7 give j` "
            + "ask(100000)=1000");
        Sentence.run(x, "`from a in A,i in a.a,j in a.c where j==5 give i` ask(100000)=10 `from a in A,i in a.a,j in a.c order j give -j` ask(100000)=-12 steps()=2024");
    }

    private static void queryErrors() {
        Sentence.of("The names of a query must be different from each other and from the names of types (error 2 at the name, after its source was checked);");
        ObjectHouse x = house("");
        Sentence.refusedQuery(x, 2, "from a in A,§a in A give 1");
        Sentence.refusedQuery(x, 2, "from a in A,b in A,§a in a.is give 1");
        Sentence.refusedQuery(x, 2, "from a in A,a in §z give 1");
        for (String s : new String[] {"A", "B", "I", "E", "Object", "Text"}) {
            Sentence.refusedQuery(x, 2, "from §" + s + " in A give 1");
        }
        Sentence.refusedQuery(x, 2, "from A in §z give 1");
        Sentence.refusedQuery(x, 2, "from §a in 1 give z");
        Sentence.refusedQuery(x, 2, "from §a in null give z");
        Sentence.refusedQuery(x, 2, "from a in A,§b in a give z");
        Sentence.refusedQuery(x, 2, "from a in A,b in a.§nothing give z");
        Sentence.answered(x, "from a in A where exists a in a.is:a==7 give sum a in a.is:a", 11);
        x = house("");
        Sentence.of("a where that is not boolean, and an order value of another type, are error 2 at its first token.");
        Sentence.refusedQuery(x, 2, "from a in A where §1 give z");
        Sentence.refusedQuery(x, 2, "from a in A where §(1+2)*3 give z");
        Sentence.refusedQuery(x, 2, "from a in A where §null give z");
        Sentence.refusedQuery(x, 2, "from a in A where §a.is[0] give z");
        for (String s : new String[] {"a", "a.o", "a.is", "a.e", "a.as", "null", "(I)a"}) {
            Sentence.refusedQuery(x, 2, "from a in A order §" + s + " give z");
        }
        for (String s : new String[] {"a.t", "a.b", "a.n", "a.d", "a.f", "a.l", "'x'", "(byte)1", "(short)1", "(Text)null", "\"x\""}) {
            Sentence.answered(x, "from a in A order " + s + " give 1", 1);
        }
        Sentence.of("The parts are checked in the order of the text.");
        Sentence.refusedQuery(x, 2, "from a in §z where y order x give w,v");
        Sentence.refusedQuery(x, 2, "from a in A where §y order x give w,v");
        Sentence.refusedQuery(x, 2, "from a in A where true order §x give w,v");
        Sentence.refusedQuery(x, 2, "from a in A order §null give w,v");
        Sentence.refusedQuery(x, 2, "from a in A order 1 give §w,v");
        Sentence.refusedQuery(x, 2, "from a in A order 1 give 1,§v");
        Sentence.refusedQuery(x, 2, "from a in A where §1 order x give w");
    }

    private static void querySteps() {
        Sentence.of("each object or element that a source of the query goes through counts one step (the from part itself counts none).");
        ObjectHouse x = house("");
        Sentence.run(x, "`from e in E give e` ask(2)=2 steps()=2 `from e in E give e` ask(1)=-10 steps()=1 `from e in E give e` ask(0)=-10 steps()=0 `from a in A,i in "
            + "a.is give i` ask(4)=2 steps()=4"
            + " `from a in A,i in a.is give i` ask(3)=-10 steps()=3 `from i in I where false give 1` ask(1)=0 steps()=1 `from e in E where e.number==1 order -e.number "
            + "give e.number+1` ask(10)=1 steps()=10"
            + " `from e in E where e.number==1 order -e.number give e.number+1` ask(9)=-10");
        ObjectHouse y = Sentence.declared(2, "class A{}class Z{}");
        Sentence.run(y, "begin()=1 make(10)=1 `from z in Z give 1/0` ask(0)=0 steps()=0 `from a in A,z in Z give 1/0` ask(1)=0 steps()=1 `from z in Z,a in A give 1/0` "
            + "ask(0)=0 steps()=0");
        Sentence.run(y, "array(10,2)=2 `from a in (A[])null give 1` ask(9)=-3 steps()=1 `from a in (A[])null give 1` ask(1)=-3 `from a in (A[])null give 1` ask(0)=-10");
    }
}
