/** The sentences of the document's section Terms that name a boundary: types, values, widening, subtypes. */
public final class TermSentences {
    public static void main(String[] args) {
        numbersOfTypes();
        arrayTypes();
        mostTypes();
        mostPairs();
        bits();
        noNumbers();
        widening();
        fitting();
        Check.end("TermSentences");
    }

    /** A class with 42 times 8 array types, which is still open. */
    private static final String MOST_ARRAYS = "class C{" + Sentence.many("A#[][][][][][][][] a#;", 40)
        + "A40[][][][][][][][] f(A41[][][][][][][][] p){return null;}";

    private static void numbersOfTypes() {
        Sentence.of("Types are numbered from 0: 0 boolean, 1 byte, 2 short, 3 char, 4 int, 5 long, 6 float, 7 double (the plain types); 8 Object; 9 Text;"
            + " then the classes of the class text (classes, interfaces, enumerations and records) in the order of the text;");
        Sentence.run("`record R(){}interface I{}enum E{K}abstract class P{}class C{}` declare()=5 kinds()=15 `Z`kind()=0 `B`kind()=1 `S`kind()=2 `C`kind()=3 `I`kind()=4"
            + " `J`kind()=5 `F`kind()=6 `D`kind()=7 `LObject;`kind()=8 `LText;`kind()=9 `LR;`kind()=10 `LI;`kind()=11 `LE;`kind()=12 `LP;`kind()=13 `LC;`kind()=14 "
            + "kinds()=15");
        Sentence.of("Types from 8 on are reference types.");
        Sentence.run("`class C{Object o;Text t;C c;int[] i;int n;}` declare()=1 begin()=1 make(10)=1 put(1,0,8,0)=0 put(1,1,8,0)=0 put(1,2,8,0)=0 put(1,3,8,0)=0 "
            + "put(1,4,8,0)=-1");
    }

    private static void arrayTypes() {
        Sentence.of("then array types, in the order in which they occur first: in the class text from its beginning"
            + " (for each type with [ ], the inner array types first; those whose name is not known are left out), then in kind, array and reopen.");
        // 10 A, 11 B, 12 int[], 13 int[][], 14 B[], 15 long[], 16 A[], 17 char[], 18 byte[], 19 short[], 20 float[].
        ObjectHouse x = Sentence.declared(2, "class A{int[][] a;B[] b;int[] c;Object f(long[] p){return (A[])(Object)((Object)p instanceof char[]?null:null);}byte[] "
            + "g(){return null;}}"
            + "record B(short[] s,float[] t){}");
        Sentence.run(x, "kinds()=21 `[I`kind()=12 `[[I`kind()=13 `[LB;`kind()=14 `[J`kind()=15 `[LA;`kind()=16 `[C`kind()=17 `[B`kind()=18 `[S`kind()=19 `[F`kind()=20");
        Sentence.run(x, "`[[[D`kind()=23 kinds()=24 `[D`kind()=21 `[[D`kind()=22 begin()=1 array(0,0)=1 kindOf(1)=24 array(24,0)=2 kindOf(2)=25 array(21,1)=3 "
            + "kindOf(3)=22 kinds()=26");
        // An unknown name in a body, which is found after the members: its array types take no numbers.
        String most = Sentence.many("class A#{}", 47) + MOST_ARRAYS + "A42[][][][][] h(){return null;}}";
        Sentence.refused(2, "class B{boolean f(){return null instanceof §Z[][][];}}" + most);
        Sentence.refused(2, "class B{boolean f(){return null instanceof int[];}}" + most.replace("A42[][][][][] h", "§A42[][][][][] h"));
        Sentence.of("In a query, and in a graph that is read, an array type that does not exist yet is not known.");
        x = Sentence.declared(1, "class A{int[] a;}");
        Sentence.run(x, "begin()=1 make(10)=1");
        Sentence.refusedQuery(x, 2, "from a in A give (§int[][])null");
        Sentence.refusedQuery(x, 2, "from a in A give null instanceof §A[]");
        Sentence.run(x, "kinds()=12 " + Sentence.graph("4f47 01 03 '[[I' 01 00 00") + " read()=-20 place()=4 kinds()=12");
        Sentence.run(x, "`[[I`kind()=12 `[LA;`kind()=13 " + Sentence.graph("4f47 01 03 '[[I' 01 00 00") + " read()=2 kindOf(2)=12");
        Sentence.answered(x, "from a in A give (int[][])null", 0);
        Sentence.answered(x, "from a in A give null instanceof A[]", 0);
    }

    private static void mostTypes() {
        Sentence.of("There are at most 400 types (a type in the class text with which there would be more is not known)");
        // 10 types, 49 classes, 42 times 8 and 5 array types: all of the 400.
        String start = Sentence.many("class A#{}", 48) + MOST_ARRAYS;
        ObjectHouse x = Sentence.declared(49, start + "A42[][][][][] b(A42[] c,A0[][] d){return null;}}");
        Sentence.run(x, "kinds()=400 `[I`kind()=-12 `[LA42;`kind()=395 `[[[[[LA42;`kind()=399 `[[[[[[LA42;`kind()=-12 begin()=1 array(4,0)=-12 array(57,0)=-12 "
            + "array(399,0)=-12"
            + " array(398,1)=1 kindOf(1)=399 array(10,0)=2 kindOf(2)=59 kinds()=400");
        Sentence.refused(2, start + "§A42[][][][][][] b(){return null;}}");
        Sentence.refused(2, start + "int b(A42[][][][][] c,§int[] d){return 1;}}");
        Sentence.refused(2, start.replace("class A47{}", "") + "A42[][][][][] b(){return null;}}record D(§int[] d){}");
        Sentence.refused(2, start + "A42[][][][][] b(){return null;}boolean g(){return null instanceof §int[];}}");
        Sentence.refused(2, start + "A42[][][][][] b(){return null;}Object g(){return (§int[])null;}}");
        // Two are missing, and one has room: the inner one becomes known, the outer one does not.
        start = start + "int b(A42[][][][] c";
        Sentence.refused(2, start + ",§int[][] d){return 1;}}");
        Sentence.refused(2, start + ",int[] d,§int[][] e){return 1;}}");
        Sentence.declared(49, start + ",int[] d){return 1;}}");
        x = Sentence.declared(49, start + "){return 1;}}");
        Sentence.run(x, "kinds()=399 `[[I`kind()=-12 kinds()=399 `[I`kind()=399 kinds()=400");
    }

    private static void mostPairs() {
        Sentence.of("at most 8 pairs [ ] in a type (in texts, the ninth [ is error 1).");
        String eight = "[][][][][][][][]";
        ObjectHouse x = Sentence.declared(2, "class A{int" + eight + " a;A" + eight + " f(Text" + eight + " p){return (A" + eight + ")(Object)p;}boolean g(){return "
            + "null instanceof long"
            + eight + ";}}record R(double" + eight + " d){}");
        Sentence.run(x, "begin()=1 make(10)=1 `[[[[[[[[[I`kind()=-12 `[[[[[[[[B`kind()=59 `[[[[[[[[[B`kind()=-12 array(59,1)=-12 array(58,1)=2 kindOf(2)=59 kinds()=60");
        Sentence.answered(x, "from a in A give (int" + eight + ")null", 0);
        Sentence.refusedQuery(x, 1, "from a in A give (int" + eight + "§[])null");
        Sentence.refusedQuery(x, 1, "from a in A give null instanceof int" + eight + "§[]");
        Sentence.refused(1, "class A{int" + eight + "§[] a;}");
        Sentence.refused(1, "class A{A" + eight + "§[] f(){return null;}}");
        Sentence.refused(1, "class A{int f(int" + eight + "§[] p){return 1;}}");
        Sentence.refused(1, "class A{Object f(){return (A" + eight + "§[])null;}}");
        Sentence.refused(1, "class A{boolean f(){return null instanceof A" + eight + "§[];}}");
        Sentence.refused(1, "record R(int" + eight + "§[] a){}");
        Sentence.refused(1, "class A{Z" + eight + "§[] a;}");
    }

    /** The least and the greatest bits of each type, and those beyond. */
    private static final String[][] BOUNDS = {
        {"0", "1", "-1", "2"}, {"-128", "127", "-129", "128"}, {"-32768", "32767", "-32769", "32768"}, {"0", "65535", "-1", "65536"},
        {"-2147483648", "2147483647", "-2147483649", "2147483648"}, {"-9223372036854775808", "9223372036854775807"},
        {"0", "0xff800000", "-1", "0x100000000", "-8388608"}, {"0", "0xfff0000000000000"}};

    private static void bits() {
        Sentence.of("Of a boolean: 0 or 1. Of an integer: the number (of a char 0 to 65535). Of a float or double: its bits as in Java (the 32 bits of a float without "
            + "sign extension).");
        String text = "`class C{boolean z;byte b;short s;char c;int i;long j;float f;double d;}record R(boolean z,byte b,short s,char c,int i,long j,float f,double "
            + "d){}` declare()=2 begin()=1 make(10)=1 ";
        for (int k = 0; k < BOUNDS.length; k++) {
            for (int n = 0; n < BOUNDS[k].length; n++) {
                String bits = BOUNDS[k][n];
                boolean isRight = n < 2;
                Sentence.run(text + "put(1," + k + "," + k + "," + bits + ")=" + (isRight ? "0" : "-1") + " get(1," + k + ")=" + (isRight ? bits : "0"));
                Sentence.run(text + "array(" + k + ",1)=2 set(2,0," + k + "," + bits + ")=" + (isRight ? "0" : "-1") + " element(2,0)=" + (isRight ? bits : "0"));
                Sentence.run(text + "argument(" + k + "," + bits + ")=" + (isRight ? "1" : "-1"));
                Sentence.run(text + "range(10," + k + "," + bits + "," + BOUNDS[k][1] + ")=" + (!isRight ? -1 : n == 0 && k < 6 ? 1 : 0));
                Sentence.run(text + "range(10," + k + "," + BOUNDS[k][0] + "," + bits + ")=" + (!isRight ? -1 : "0".equals(bits) || n == 1 && k < 6 ? 1 : 0));
            }
        }
        Sentence.of("Of a reference: the number of the object, 0 for null.");
        Sentence.run("`class C{C c;}` declare()=1 begin()=1 make(10)=1 put(1,0,8,1)=0 get(1,0)=1 put(1,0,8,0)=0 get(1,0)=0 code()=0");
    }

    private static void noNumbers() {
        Sentence.of("Not-a-number does not occur: a call that is given one returns code 1, and an operation whose result would be one fails with code 8.");
        String[] floats = {"0x7f800001", "0x7fc00000", "0x7fffffff", "0xff800001", "0xffffffff"};
        String[] doubles = {"0x7ff0000000000001", "0x7ff8000000000000", "0x7fffffffffffffff", "0xfff0000000000001", "0xffffffffffffffff"};
        String text = "`class C{float f;double d;}` declare()=1 begin()=1 make(10)=1 array(6,1)=2 array(7,1)=3 ";
        for (int i = 0; i < 5; i++) {
            Sentence.run(text + "put(1,0,6," + floats[i] + ")=-1 put(1,1,6," + floats[i] + ")=-1 put(1,1,7," + doubles[i] + ")=-1 set(2,0,6," + floats[i]
                + ")=-1 set(3,0,7," + doubles[i]
                + ")=-1 argument(6," + floats[i] + ")=-1 argument(7," + doubles[i] + ")=-1 range(10,0," + floats[i] + ",0)=-1 range(10,0,0," + floats[i]
                + ")=-1 range(10,1," + doubles[i]
                + ",0)=-1 range(10,1,0," + doubles[i] + ")=-1 get(1,0)=0 get(1,1)=0 element(2,0)=0 element(3,0)=0");
        }
        Sentence.run(text + "put(1,0,6,0x7f800000)=0 put(1,0,6,0xff800000)=0 put(1,1,7,0x7ff0000000000000)=0 put(1,1,7,0xfff0000000000000)=0 argument(6,0x7f800000)=1 "
            + "argument(7,0x7ff0000000000000)=2");
        ObjectHouse x = Sentence.run("`enum E{K}` declare()=1 begin()=1");
        String infinity = "1.0/0.0";
        String[] results = {"0.0/0.0", "0.0%0.0", "1.0%0.0", infinity + "-" + infinity, "0.0*(" + infinity + ")", "(" + infinity + ")*0", "(" + infinity + ")/("
            + infinity + ")",
            "(" + infinity + ")%2.0", "-1.0/0.0+" + infinity, "(float)0/(float)0", "(float)1%0", "(float)(" + infinity + ")-(float)(" + infinity + ")", "(float)("
                + infinity + ")*0",
            "sum e in E:0.0/0", "1/0", "1%0", "1L/0L", "1L%0", "'a'/(0*'a')"};
        for (String s : results) {
            Sentence.run(x, "`from e in E give " + s + "` ask(99)=-8");
        }
        String[] right = {infinity, "-1.0/0.0", "0.0*1.0", "5.0%(" + infinity + ")", infinity + "+" + infinity, "-1.0/0.0-" + infinity, "(" + infinity + ")*-2", "1.0/("
            + infinity + ")", "0.0%1.0"};
        double i = Double.POSITIVE_INFINITY;
        double[] due = {i, -i, 0.0, 5.0, i, -i, -i, 0.0, 0.0};
        for (int n = 0; n < right.length; n++) {
            Sentence.answered(x, "from e in E give " + right[n], Check.bits(due[n]));
        }
    }

    private static void widening() {
        Sentence.of("Widening goes from byte to short, int, long, float, double; from short and char to int, long, float, double; from int to long, float, double; from "
            + "long to float, double;"
            + " from float to double; with the results of Java.");
        String[] rows = {"10000000", "01101111", "00101111", "00011111", "00001111", "00000111", "00000011", "00000001"};
        String[][] values = {{"0", "1"}, {"-128", "127"}, {"-32768", "32767"}, {"0", "65535"}, {"-2147483647", "16777217"}, {"-9223372036854775807", "9007199254740993"},
            {"0x80000001", "0x7f7fffff"}, {"0x8000000000000001", "0x7fefffffffffffff"}};
        String text = "`class C{boolean z;byte b;short s;char c;int i;long j;float f;double d;}record Z(boolean p){}record B(byte p){}record S(short p){}record C2(char "
            + "p){}record I(int p){}record J(long p){}"
            + "record F(float p){}record D(double p){}class M{boolean m0(boolean p){return p;}byte m1(byte p){return p;}short m2(short p){return p;}char m3(char "
            + "p){return p;}int m4(int p){return p;}"
            + "long m5(long p){return p;}float m6(float p){return p;}double m7(double p){return p;}}` declare()=10 begin()=1 make(10)=1 make(19)=2 ";
        for (int from = 0; from < 8; from++) {
            for (int to = 0; to < 8; to++) {
                for (String value : values[from]) {
                    boolean isRight = rows[from].charAt(to) == '1';
                    String due = isRight ? "" + widened(value, from, to) : "0";
                    String bits = from + "," + value;
                    Sentence.run(text + "fits(" + from + "," + to + ")=" + (isRight ? 1 : 0) + " put(1," + to + "," + bits + ")=" + (isRight ? "0" : "-1") + " get(1,"
                        + to + ")=" + due + " array("
                        + to + ",1)=3 set(3,0," + bits + ")=" + (isRight ? "0" : "-1") + " element(3,0)=" + due + " argument(" + bits + ")=1 `m" + to + "`call(2,0)="
                        + (isRight ? "0" : "-1")
                        + " answered()=" + due + " argument(" + bits + ")=1 record(" + (11 + to) + ")=" + (isRight ? "4 get(4,0)=" + due : "-1"));
                }
            }
        }
    }

    private static long widened(String text, int from, int to) {
        long bits = text.startsWith("0x") ? Long.parseUnsignedLong(text.substring(2), 16) : Long.parseLong(text);
        if (from == to) {
            return bits;
        }
        if (from == 6) {
            return Check.bits((double) Float.intBitsToFloat((int) bits));
        }
        return to == 6 ? Check.bits((float) bits) : to == 7 ? Check.bits((double) bits) : bits;
    }

    private static void fitting() {
        ObjectHouse x = Sentence.declared(7, "interface I{}interface J extends I{}class P implements J{}class C extends P{}enum E{K}record R() implements I{}class Q{}");
        // 10 I, 11 J, 12 P, 13 C, 14 E, 15 R, 16 Q.
        Sentence.of("A type fits another one if they are the same, or the first one widens to the second one, or both are reference types and the first one is a "
            + "subtype of the second one.");
        Sentence.run(x, "fits(0,0)=1 fits(7,7)=1 fits(0,4)=0 fits(4,0)=0 fits(4,8)=0 fits(8,4)=0 fits(4,5)=1 fits(5,4)=0 fits(-1,-1)=-14 fits(17,8)=-14 fits(8,17)=-14");
        Sentence.of("Every reference type is a subtype of itself and of Object.");
        for (int k = 8; k <= 16; k++) {
            Sentence.run(x, "fits(" + k + "," + k + ")=1 fits(" + k + ",8)=1 fits(8," + k + ")=" + (k == 8 ? 1 : 0));
        }
        Sentence.of("A class is a subtype of the classes and interfaces that it names as parent or interface, directly or indirectly.");
        Sentence.run(x, "fits(13,12)=1 fits(13,11)=1 fits(13,10)=1 fits(12,10)=1 fits(11,10)=1 fits(15,10)=1 fits(15,11)=0 fits(12,13)=0 fits(10,11)=0 fits(16,12)=0 "
            + "fits(14,10)=0 fits(9,10)=0");
        Sentence.of("An array type whose element type is a reference type is a subtype of an array type whose element type is a supertype of its element type;"
            + " an array type with plain elements has no other supertype but Object.");
        Sentence.run(x, "`[LC;`kind()=17 `[LI;`kind()=18 `[LObject;`kind()=19 `[I`kind()=20 `[J`kind()=21 `[[I`kind()=22 `[[LC;`kind()=23 `[[LI;`kind()=24 "
            + "`[[LObject;`kind()=25 `[[J`kind()=26");
        Sentence.run(x, "fits(17,17)=1 fits(17,18)=1 fits(18,17)=0 fits(17,19)=1 fits(19,17)=0 fits(20,19)=0 fits(20,21)=0 fits(20,8)=1 fits(20,20)=1 fits(22,19)=1 "
            + "fits(22,25)=0 fits(22,26)=0 fits(23,24)=1"
            + " fits(24,23)=0 fits(23,25)=1 fits(23,19)=1 fits(23,18)=0 fits(17,12)=0 fits(12,17)=0 fits(20,4)=0 fits(4,20)=0 fits(25,19)=1 fits(19,25)=0");
    }
}
