/** Class texts and queries that are refused, each with the place of its error: there stands a § in the text. */
public final class TextTests {
    /** The text has one error, at the § (which is left out). */
    private static void refused(int error, String marked) {
        int place = marked.indexOf('\u00a7');
        String text = marked.replace("\u00a7", "");
        ObjectHouse x = new ObjectHouse();
        Check.tray(x, text);
        Check.is("declare " + marked, x.declare(), -error);
        Check.is("place of " + marked, x.place(), place);
        Check.is("kinds()", x.kinds(), 0);
    }

    private static void accepted(int classes, String text) {
        ObjectHouse x = new ObjectHouse();
        Check.tray(x, text);
        Check.is("declare " + text, x.declare(), classes);
        Check.is("place of " + text, x.place(), -1);
    }

    private static final String HOUSE = "class A{int n;A a;Object o;Text t;int[] is;int f(int i){return i;}}enum E{K}interface I{int g();}";

    private static void refusedQuery(int error, String marked) {
        int place = marked.indexOf('\u00a7');
        ObjectHouse x = Check.open(HOUSE);
        Check.is("ask " + marked, Check.ask(x, marked.replace("\u00a7", ""), 100), -20 - error);
        Check.is("place of " + marked, x.place(), place);
        Check.is("steps()", x.steps(), 0);
    }

    private static void acceptedQuery(String text) {
        ObjectHouse x = Check.open(HOUSE);
        Check.is("ask " + text, Check.ask(x, text, 100) > -20, true);
        Check.is("place of " + text, x.place(), -1);
    }

    /** An expression as the body of a method with a parameter p. */
    private static void body(int error, String type, String marked) {
        refused(error, "enum E{K,L}class B{}class A extends B{int n;A a;Object o;Text t;int[] is;boolean b;long l;double d;char c;int f(int i){return i;}"
            + type + " m(int p,A q){return " + marked + ";}}interface I{int g();}record R(int n){}");
    }

    private static void rightBody(String type, String text) {
        accepted(5, "enum E{K,L}class B{}class A extends B{int n;A a;Object o;Text t;int[] is;boolean b;long l;double d;char c;int f(int i){return i;}"
            + type + " m(int p,A q){return " + text + ";}}interface I{int g();}record R(int n){}");
    }

    private static String many(String one, int n) {
        StringBuilder s = new StringBuilder();
        for (int i = 0; i < n; i++) {
            s.append(one.replace("#", "" + i));
        }
        return s.toString();
    }

    public static void main(String[] args) {
        tokens();
        grammar();
        limits();
        declarations();
        methods();
        expressions();
        names();
        order();
        queries();
        Check.end("TextTests");
    }

    private static void tokens() {
        accepted(0, "");
        accepted(0, " \t\r\n");
        accepted(1, "class\tA\r{\n}");
        accepted(1, "class _a9{}");
        accepted(1, "class " + "n".repeat(30) + "{}");
        refused(1, "class §" + "n".repeat(31) + "{}");
        refused(1, "§#");
        refused(1, "class A{} §$");
        refused(1, "class A\u00a7\f{}");
        body(1, "int", "§2147483648");
        rightBody("int", "2147483647");
        rightBody("int", "0002147483647");
        body(1, "long", "§9223372036854775808L");
        rightBody("long", "9223372036854775807L");
        rightBody("double", "1234567890.12345");
        body(1, "double", "§1234567890.123456");
        body(1, "double", "1.§");
        body(2, "double", "1.§L");
        body(1, "double", "1.5.§5");
        body(1, "int", "12§x");
        rightBody("char", "'a'");
        body(1, "char", "§''");
        body(1, "char", "§'\\'");
        body(1, "char", "§'ab'");
        rightBody("Text", "\"\"");
        rightBody("Text", "\"" + "x".repeat(100) + "\"");
        body(1, "Text", "§\"" + "x".repeat(101) + "\"");
        body(1, "Text", "§\"a\\\"");
        body(1, "Text", "§\"a");
        body(1, "int", "p >>>§> 1");
        body(1, "int", "p ==§= 1");
        rightBody("int", "p>>>1>>1<<1");
    }

    private static void grammar() {
        refused(1, "class A{§");
        refused(1, "class A{   §");
        refused(1, "§A{}");
        refused(1, "class §{}");
        refused(1, "class §class{}");
        refused(1, "abstract §interface A{}");
        refused(1, "class A extends B§,C{}");
        refused(1, "class A implements B,§{}");
        refused(1, "interface A §implements B{}");
        refused(1, "enum A{§}");
        refused(1, "enum A{B,§}");
        refused(1, "enum A{B}§;");
        refused(1, "record A§{}");
        refused(1, "record A(int a,§){}");
        refused(1, "record A(){int a§;}");
        refused(1, "interface A{int a§;}");
        refused(1, "class A{abstract int a§;}");
        refused(1, "class A{int f(){§}}");
        refused(1, "class A{int f(){return 1§}}");
        refused(1, "class A{int f(){return 1;§return 2;}}");
        refused(1, "class A{int[§3] a;}");
        refused(1, "class A{int f(int§){return 1;}}");
        refused(1, "class A{int f(int a,§){return 1;}}");
        body(1, "int", "§");
        body(1, "int", "1+§");
        body(1, "int", "(1§");
        body(1, "int", "f(1,§)");
        body(1, "int", "f(1 §2)");
        body(1, "int", "p.§1");
        body(1, "int", "p.§count");
        body(1, "int", "is[§]");
        body(1, "int", "b?1§");
        body(1, "int", "b?1:§");
        body(1, "int", "1+§sum x in is:x");
        rightBody("int", "1+(sum x in is:x)");
        body(1, "boolean", "exists §1 in is:true");
        body(1, "boolean", "exists x §is:true");
        body(1, "boolean", "exists x in is §true");
        // A "(" before the name of a type begins a cast.
        body(1, "int", "(A§.K)");
        body(1, "int", "(A)§");
        body(1, "int", "(int §1)");
        body(1, "int", "(int)§)");
        rightBody("Object", "(Object)(A)null");
        // instanceof stands alone among the tests.
        body(1, "boolean", "1<2 §instanceof A");
        body(1, "boolean", "q instanceof A §< 2");
        body(1, "boolean", "q instanceof A §+ 2");
        body(1, "boolean", "q instanceof A §instanceof A");
        body(1, "boolean", "q instanceof A§.n");
        rightBody("boolean", "q instanceof A == q instanceof A && b");
        rightBody("boolean", "b == q instanceof A");
    }

    private static void limits() {
        accepted(60, many("class A#{}", 60));
        refused(1, many("class A#{}", 60) + " §class B{}");
        accepted(1, "class A{" + many("int f#(){return 1;}", 20) + "int z;}");
        refused(1, "class A{" + many("int f#(){return 1;}", 20) + "int z;§int g(){return 1;}}");
        refused(1, "abstract class A{" + many("int f#(){return 1;}", 20) + "§abstract int g();}");
        accepted(1, "record A(int z){" + many("int f#(){return 1;}", 20) + "}");
        refused(1, "record A(int z){" + many("int f#(){return 1;}", 20) + "§int g(){return 1;}}");
        accepted(1, "class A{int f(int a" + many(",int b#", 7) + "){return 1;}}");
        refused(1, "class A{int f(int a" + many(",int b#", 7) + ",§int c){return 1;}}");
        accepted(1, "enum A{K" + many(",L#", 39) + "}");
        refused(1, "enum A{K" + many(",L#", 39) + ",§M}");
        accepted(1, "class A{" + many("int a#;", 40) + "}");
        refused(2, "class A{" + many("int a#;", 40) + "int §b;}");
        refused(2, "class B extends A{int §b;}class A{" + many("int a#;", 40) + "}");
        refused(2, "record A(int a" + many(",int b#", 39) + ",int §c){}");
        accepted(1, "class A{int" + "[]".repeat(8) + " a;}");
        refused(1, "class A{int" + "[]".repeat(8) + "§[] a;}");
        depth();
        height();
        // 10 types, 49 classes and 341 array types; the 401st type is not known.
        String start = many("class A#{}", 48) + "class C{" + many("A#[][][][][][][][] a#;", 40) + "int f(A40[][][][][][][][] p,A41[][][][] q";
        accepted(49, start + "){return 1;}}");
        accepted(49, start + ",A42[][][][][][][][] r,int[] s){return 1;}}");
        refused(2, start + ",A42[][][][][][][][] r,int[] s,§A42[] t){return 1;}}".replace("A42[] t", "byte[] t"));
        refused(2, start + ",A42[][][][][][][][] r,§int[][] s,byte[] t){return 1;}}");
        accepted(49, start + ",A42[][][][][][][][] r,int[] s,A40[] t){return 1;}}");
    }

    private static void depth() {
        rightBody("int", "(".repeat(29) + "1" + ")".repeat(29));
        body(1, "int", "(".repeat(30) + "§1" + ")".repeat(30));
        rightBody("int", "- ".repeat(29) + "1");
        body(1, "int", "- ".repeat(30) + "§1");
        rightBody("int", "(int)".repeat(28) + "(int)1");
        body(1, "int", "(int)".repeat(29) + "(§int)1");
        body(1, "int", "(".repeat(29) + "f(§1)" + ")".repeat(29));
        body(1, "int", "(".repeat(29) + "is[§1]" + ")".repeat(29));
        body(1, "int", "(".repeat(29) + "b?§1:2" + ")".repeat(29));
        rightBody("int", "(".repeat(28) + "b?1:2" + ")".repeat(28));
        body(1, "int", "b?1:".repeat(29) + "b?§1:2");
        rightBody("int", "b?1:".repeat(29) + "2");
        body(1, "int", "(".repeat(29) + "sum §x in is:x" + ")".repeat(29));
        rightBody("int", "(".repeat(28) + "sum x in is:x" + ")".repeat(28));
        rightBody("Object", "(".repeat(29) + "o" + ")".repeat(29));
    }

    private static void height() {
        String bodyOf = "class A{A a;int n;int f(){";
        accepted(1, bodyOf + "return 1" + "+1".repeat(29) + ";}}");
        refused(2, bodyOf + "§return 1" + "+1".repeat(30) + ";}}");
        refused(2, bodyOf + "§return x" + "+1".repeat(30) + ";}}");
        accepted(1, bodyOf + "return a" + ".a".repeat(28) + ".n;}}");
        refused(2, bodyOf + "§return a" + ".a".repeat(29) + ".n;}}");
        accepted(1, bodyOf + "return ((((f()))))" + "+f()".repeat(29) + ";}}");
        refusedQuery(2, "from a in A give 1,§(1" + "+1".repeat(30) + ")");
        refusedQuery(2, "from a in A,b in §(a" + ".a".repeat(29) + ".is) give x");
        refusedQuery(2, "from a in A where §x" + "+1".repeat(30) + " give x");
        // E.K has the part E.
        accepted(2, "enum E{K}class A{int f(){return E.K.number" + "+1".repeat(27) + ";}}");
        refused(2, "enum E{K}class A{int f(){§return E.K.number" + "+1".repeat(28) + ";}}");
    }

    private static void declarations() {
        refused(2, "class A{}class §A{}");
        refused(2, "class §Object{}");
        refused(2, "enum §Text{K}");
        refused(2, "class A extends B{}class §A{}");
        refused(2, "class A extends §B{}");
        refused(2, "class A extends §Text{}");
        accepted(1, "class A extends Object{}");
        refused(2, "class A extends §E{}enum E{K}");
        refused(2, "class A extends §R{}record R(){}");
        refused(2, "class A extends §I{}interface I{}");
        accepted(2, "class A extends B{}abstract class B{}");
        refused(2, "class A implements §B{}class B{}");
        refused(2, "class A implements §Object{}");
        refused(2, "interface A extends §B{}class B{}");
        refused(2, "class A implements I,§I{}interface I{}");
        refused(2, "record A() implements I,J,§I{}interface I{}interface J{}");
        refused(2, "class §A extends B{}class B extends A{}");
        refused(2, "class C extends A{}class §A extends B{}class B extends A{}");
        refused(2, "class §A extends A{}");
        refused(2, "interface §A extends B{}interface B extends C{}interface C extends A{}");
        refused(2, "class A{§B b;}");
        refused(2, "class A{§B[] b;}");
        refused(2, "class A{int §A;}");
        refused(2, "class A{int §Text;}");
        refused(2, "class A{int a;long §a;}");
        refused(2, "class B extends A{int §a;}class A{int a;}");
        refused(2, "class A{int a;}class B extends A{}class C extends B{int §a;}");
        refused(2, "record A(int a,int §a){}");
        refused(2, "enum A{K,L,§K}");
        accepted(1, "enum A{A,Object}");
        // The names come first in the whole text, then the heads, then circles, then members.
        refused(2, "class A{B b;}class A2 extends A2{}class C extends §D{}");
        refused(2, "class A{B b;}class §A2 extends A2{}");
        accepted(1, "class A{int f;int f(){return f;}int A(){return f();}}");
    }

    private static void methods() {
        refused(2, "class A{§B f(C c){return 1;}}");
        refused(2, "class A{int f(§C c){return 1;}}");
        refused(2, "class A{int f(int §A){return 1;}}");
        refused(2, "class A{int f(int a,int §a){return 1;}}");
        accepted(1, "class A{int a;int f(int a){return a;}}");
        refused(2, "class A{int f(){return 1;}long §f(int a){return 1;}}");
        refused(2, "class A{§abstract int f();}");
        refused(2, "class A{§int f();}");
        refused(2, "class A{§default int f(){return 1;}}");
        refused(2, "abstract class A{§abstract int f(){return 1;}}");
        refused(2, "abstract class A{§int f();}");
        refused(2, "record A(){§abstract int f();}");
        refused(2, "record A(){§int f();}");
        refused(2, "interface A{§abstract int f();}");
        refused(2, "interface A{§default int f();}");
        refused(2, "interface A{§int f(){return 1;}}");
        accepted(1, "interface A{int f();default int g(){return f();}}");
        refused(2, "interface I{int f();}abstract class A implements I{long §f(){return 1;}}");
        refused(2, "interface I{int f(int a);}abstract class A implements I{int §f(){return 1;}}");
        refused(2, "class A{int f(){return 1;}}class B extends A{}class C extends B{int §f(int a){return 1;}}");
        refused(2, "interface I{int f();}interface J{long f();}abstract class §A implements I,J{}");
        refused(2, "interface I{int f();}interface J{long f();}interface §A extends I,J{}");
        refused(2, "interface I{int f();}class §A implements I{}");
        refused(2, "interface I{int f();}record §A() implements I{}");
        accepted(2, "interface I{int f();}abstract class A implements I{}");
        refused(2, "abstract class A{abstract int f();}class §B extends A{}");
        refused(2, "abstract class A{abstract int f();}interface I{default int f(){return 1;}}class §B extends A implements I{}");
        refused(2, "interface I{default int f(){return 1;}}interface J{default int f(){return 1;}}class §B implements I,J{}");
        accepted(3, "interface I{default int f(){return 1;}}interface J extends I{default int f(){return 1;}}class B implements I,J{}");
        accepted(3, "interface I{default int f(){return 1;}}interface J{int f();}class B implements I,J{}");
    }

    private static void expressions() {
        body(2, "int", "1§+true");
        body(2, "int", "§-b");
        body(2, "int", "§~d");
        body(2, "boolean", "§!p");
        body(2, "int", "p§<<d");
        body(2, "int", "p§&b");
        body(2, "boolean", "b§<b");
        body(2, "boolean", "b§==1");
        body(2, "boolean", "t§==q");
        body(2, "boolean", "b§&&p");
        body(2, "boolean", "p§||b");
        rightBody("boolean", "o==t&&q!=null&&null==null&&1==1.0&&b!=true");
        rightBody("long", "p+l");
        rightBody("double", "(float)1%l");
        rightBody("int", "c+c");
        rightBody("int", "p<<l");
        rightBody("boolean", "b&b|b^b");
        refusedReturn("int", "l");
        refusedReturn("char", "p");
        refusedReturn("int", "null");
        refusedReturn("A", "o");
        rightBody("double", "c");
        rightBody("A", "null");
        rightBody("B", "q");
        body(2, "int", "§(int)b");
        body(2, "boolean", "§(boolean)p");
        body(2, "int", "§(int)null");
        body(2, "Object", "§(Object)p");
        body(2, "Text", "§(Text)q");
        body(2, "R", "§(R)(I)null");
        body(2, "A", "§(A)(R)null");
        body(1, "A", "(Z)§q");
        body(2, "A", "(A)§z");
        rightBody("A", "(A)(I)(B)q");
        rightBody("int", "(int)'a'+(byte)d");
        body(2, "boolean", "p §instanceof A");
        body(2, "boolean", "q §instanceof int");
        body(2, "boolean", "q §instanceof Text");
        body(2, "boolean", "q instanceof §Z");
        rightBody("boolean", "null instanceof A|q instanceof I|o instanceof int[]");
        body(2, "int", "p§?1:2");
        body(2, "int", "b§?1:q");
        body(2, "Object", "b§?t:q");
        rightBody("B", "b?q:(B)null");
        rightBody("long", "b?p:l");
        rightBody("char", "b?c:c");
        rightBody("boolean", "b?b:true");
        rightBody("Object", "b?null:null");
        refusedReturn("char", "b?c:(byte)1");
        body(2, "int", "p§[0]");
        body(2, "int", "is§[l]");
        body(2, "int", "is§[b]");
        rightBody("int", "is[c]+is.length");
        body(2, "int", "is.§size");
        body(2, "int", "q.§nothing");
        body(2, "int", "p.§x");
        body(2, "int", "null.§x");
        body(2, "int", "t.§length");
        rightBody("int", "t.length()+t.at('a')");
        body(2, "int", "t.§at(l)");
        body(2, "int", "t.§length(1)");
        body(2, "int", "q.§g()");
        body(2, "int", "q.§f()");
        body(2, "int", "q.§f(1,2)");
        body(2, "int", "q.§f(l)");
        body(2, "int", "§f(q)");
        body(2, "int", "f(§x)");
        body(2, "int", "§h(1)");
        rightBody("int", "q.f(c)+f((byte)1)");
        rightBody("int", "((I)q).g()");
    }

    private static void refusedReturn(String type, String text) {
        String before = "class B{}class A extends B{Object o;boolean b;long l;char c;" + type + " m(int p){";
        refused(2, before + "§return " + text + ";}}");
    }

    private static void names() {
        body(2, "int", "§x");
        body(2, "int", "§E");
        body(2, "int", "§A.n");
        body(2, "int", "§E[0]");
        body(2, "int", "§E.f()");
        body(2, "E", "E.§M");
        body(2, "int", "E.§length");
        rightBody("E", "E.K");
        rightBody("int", "E.L.number");
        body(2, "int", "q.a.§number");
        rightBody("int", "sum p in is:p+n");
        body(2, "int", "sum §A in is:1");
        body(2, "int", "sum §Text in is:1");
        body(2, "int", "sum §x in p:x");
        body(2, "int", "sum §x in q:z");
        body(2, "int", "sum x in §Z:x");
        body(2, "int", "sum x in §Object:1");
        body(2, "int", "sum §x in is:b");
        body(2, "int", "count §x in is:x");
        body(2, "boolean", "exists §x in is:x");
        body(2, "boolean", "all §x in null:true");
        body(2, "int", "(sum x in is:x)+§x");
        rightBody("int", "(count x in E:x==E.K)+(sum x in I:x.g())+(sum r in R:r.n)");
        rightBody("double", "sum x in is:(float)x");
        refusedReturn("int", "sum x in A:x.l");
        rightBody("boolean", "all x in A:exists y in x.is:y==x.n");
        // There are no fields of this in an interface.
        refused(2, "interface I{default int f(){return §n;}}");
        refused(2, "interface I{default int f(){return this.§n;}}");
    }

    /** Errors of parts come before those of the whole, and those to the left before those to the right. */
    private static void order() {
        body(2, "int", "§y+z");
        body(2, "int", "true+§z");
        body(2, "int", "1§+true+z");
        body(2, "int", "b&&(1§+true)");
        body(2, "int", "p?§y:z");
        body(2, "int", "h(§y)");
        body(2, "int", "p.h(§y)");
        body(2, "int", "b[§y]");
        body(2, "int", "(boolean)(int)§y");
        body(2, "boolean", "§y instanceof Z");
        body(2, "int", "sum A in §y:z");
        body(2, "int", "sum §A in is:z");
        refused(2, "class A{int f(){return §x;}int g(){return y;}}class B{int h(){return z;}}");
        refused(2, "class A{int f(){return x;}§B g(){return y;}}");
    }

    private static void queries() {
        refusedQuery(1, "§");
        refusedQuery(1, "§select a in A give a");
        refusedQuery(1, "from a in A§");
        refusedQuery(1, "from a in A give§");
        refusedQuery(1, "from a in A, §give a");
        refusedQuery(1, "from a in A,b in A,c in A,§d in A give a");
        refusedQuery(1, "from a in A give a,a,a,a,§a");
        refusedQuery(1, "from a in A §down give a");
        refusedQuery(1, "from a in A order a.n down §down give a");
        refusedQuery(1, "from a in A order a.n §where true give a");
        refusedQuery(1, "from a in A give a§;");
        refusedQuery(1, "from a in A give (A§.n)");
        refusedQuery(2, "from a in §B give a");
        refusedQuery(2, "from §a in 1 give b");
        refusedQuery(2, "from §A in A give b");
        refusedQuery(2, "from a in A,§a in A give b");
        refusedQuery(2, "from a in A,a in §b give b");
        refusedQuery(2, "from a in A where §a.n give b");
        refusedQuery(2, "from a in A where a.n+§b order b give b");
        refusedQuery(2, "from a in A order §a give b");
        refusedQuery(2, "from a in A order §null give b");
        refusedQuery(2, "from a in A order §(a.is) give b");
        refusedQuery(2, "from a in A give §this");
        refusedQuery(2, "from a in A give §f(1)");
        refusedQuery(2, "from a in A give f(§b)");
        refusedQuery(2, "from a in A give §n");
        refusedQuery(2, "from a in A give (§long[])null");
        acceptedQuery("from a in A give (int[])null");
        acceptedQuery("from a in A,i in a.is,e in E where i>0 order a.t down give a,i,e,null");
        acceptedQuery("from a in A order a.n>0 give exists a in a.is:a>0");
        acceptedQuery("from g in I give g.g()");
    }
}
