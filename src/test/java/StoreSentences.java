/** The sentences of sections 5, 6 and 8 that name a boundary: objects, their limits, transactions, conflicts, collection. */
public final class StoreSentences {
    public static void main(String[] args) {
        numbers();
        constants();
        texts();
        queryTexts();
        firstValues();
        mostObjects();
        mostElements();
        mostChanges();
        versions();
        views();
        reads();
        readsNothing();
        changes();
        roots();
        classes();
        conflicts();
        collection();
        staying();
        Check.end("StoreSentences");
    }

    private static void numbers() {
        Sentence.of("Objects are numbered from 1; a number is never given twice (but see crashes, section 9).");
        Sentence.run("`class C{}record R(){}` declare()=2 begin()=1 make(10)=1 record(11)=2 array(4,0)=3 cloned(3)=4 `a`text()=5 drop(1)=true begin()=2 make(10)=6 "
            + "`a`text()=5 keep(2)=1 view(1)=true"
            + " sweep(1)=2 alive(6)=false alive(5)=false `a`text()=7 begin()=3 make(10)=8 drop(3)=true begin()=4 make(10)=9 make(99)=-14 make(4)=-1 array(4,401)=-12 "
            + "array(4,-1)=-4 make(10)=10");
    }

    private static void constants() {
        Sentence.of("The constants of all enumerations exist from declare on, in the order of the text; they are always alive and cannot be changed.");
        ObjectHouse x = Sentence.run("`enum E{K,L}class C{}enum F{M,N,O}` declare()=3 constant(10,0)=1 constant(10,1)=2 constant(12,0)=3 constant(12,2)=5 "
            + "alive(1)=false view(0)=true alive(1)=true alive(5)=true"
            + " alive(6)=false kindOf(5)=12 begin()=1 alive(5)=true put(1,0,4,1)=-1 set(1,0,4,1)=-1 make(11)=6 drop(1)=true begin()=2 keep(2)=1 begin()=3 keep(3)=2 "
            + "sweep(2)=0 view(2)=true alive(1)=true"
            + " alive(6)=false crash(0)=true constant(10,0)=-13 reopen()=2 constant(12,1)=4 view(2)=true alive(4)=true");
        Sentence.answered(x, "from e in E give e", 1, 2);
        Sentence.answered(x, "from e in F give e", 3, 4, 5);
    }

    private static void texts() {
        Sentence.of("Texts are unique: for equal bytes there is only one object, which is alive in all views from its creation on, until it is collected (section 8) or "
            + "lost by a crash (section 9), no matter who created it.");
        Sentence.run("`class C{}` declare()=1 begin()=1 keep(1)=1 begin()=2 view(0)=true `a`text()=1 alive(1)=true view(1)=true alive(1)=true kindOf(1)=9 use(2)=true "
            + "alive(1)=true `a`text()=1 begin()=3 alive(1)=true"
            + " `a`text()=1 drop(2)=true `a`text()=1 drop(3)=true `a`text()=1 `A`text()=2 `a `text()=3 ``text()=4 ``text()=4 sweep(1)=4 view(1)=true alive(1)=false "
            + "`a`text()=5 crash(1000)=true reopen()=1"
            + " view(1)=true alive(5)=false alive(1)=false `a`text()=1");
        // One that a transaction created with a graph, a query or a call stays, too, when it is discarded.
        Sentence.run("`class C{Text f(){return \"b\";}}` declare()=1 begin()=1 " + Sentence.graph("4f47 01 06 'LText;' 01 00 01 'c'") + " read()=2 `from c in C give "
            + "\"d\"` ask(9)=0 drop(1)=true view(0)=true"
            + " `b`text()=1 `c`text()=2 `d`text()=3 alive(2)=true alive(3)=true letter(2,0)='c' letter(3,0)='d' letter(1,0)='b'");
        Sentence.of("The texts in the class text exist from declare on, behind the constants, in the order of the text, and always;");
        Sentence.run("`class C{Text f(){return \"b\";}Text g(){return \"a\";}boolean h(Text t){return t==\"b\"|t==\"\"|t==\"x\";}}enum E{K,L}class D{Text f(){return "
            + "\"a\";}Text i(){return \"y\";}}` declare()=3"
            + " constant(11,1)=2 view(0)=true kindOf(3)=9 letter(3,0)='b' letter(4,0)='a' size(5)=0 letter(6,0)='x' letter(7,0)='y' alive(8)=false `b`text()=3 "
            + "`a`text()=4 ``text()=5 `z`text()=8 sweep(0)=1"
            + " alive(8)=false alive(3)=true alive(7)=true crash(100)=true reopen()=0 view(0)=true `y`text()=7 `z`text()=8 begin()=1 make(12)=9 `f`call(9,9)=0 "
            + "answered()=4");
    }

    private static void queryTexts() {
        Sentence.of("the texts in a query are created when the query is asked, if it has no error (code 12 if there is no room).");
        ObjectHouse x = Sentence.run("`class C{int n;}` declare()=1 begin()=1 make(10)=1 `from c in C give \"a\",z` ask(9)=-22 `from c in C give \"a\",` ask(9)=-21 "
            + "`from c in C give \"a\"` ask(-1)=-1"
            + " `from c in C give \"a\"` ask(100001)=-1 `b`text()=2 `from c in C where c.n==1 order \"c\" give \"d\",\"c\",\"b\",\"e\"` ask(99)=0 `c`text()=3 "
            + "`d`text()=4 `e`text()=5 `from c in C give 1/0,\"f\"` ask(9)=-8"
            + " `f`text()=6 `from c in C give \"g\"` ask(0)=-10 `g`text()=7 `a`text()=8");
        Sentence.answered(x, "from c in C give \"g\"", 7);
    }

    private static void firstValues() {
        Sentence.of("An object of a class or record has one value for each field, the fields of the parents first, in the order of the text; at first 0, false or null.");
        Sentence.run("`class C extends B{Object o;boolean z;}abstract class B extends A{byte b;char c;}class A{short s;long j;float f;double d;Text t;int[] i;}` "
            + "declare()=3 fields(10)=10 fields(11)=8 fields(12)=6"
            + " field(10,0)=2 field(10,1)=5 field(10,2)=6 field(10,3)=7 field(10,4)=9 field(10,5)=13 field(10,6)=1 field(10,7)=3 field(10,8)=8 field(10,9)=0 "
            + "field(10,10)=-14 begin()=1 make(10)=1"
            + " get(1,0)=0 get(1,1)=0 get(1,2)=0 get(1,3)=0 get(1,4)=0 get(1,5)=0 get(1,6)=0 get(1,7)=0 get(1,8)=0 get(1,9)=0 code()=0 get(1,10)=0 code()=14 "
            + "`z`named(10)=9 `s`named(10)=0 `b`named(11)=6 `b`named(12)=-14");
        Sentence.of("An array has 0 to 400 elements, at first 0, false or null.");
        Sentence.run("`class C{}` declare()=1 begin()=1 array(7,400)=1 element(1,0)=0 element(1,399)=0 code()=0 element(1,400)=0 code()=2 array(10,0)=2 element(2,0)=0 "
            + "code()=2 size(2)=0 array(0,401)=-12"
            + " array(0,2147483647)=-12 array(0,-2147483648)=-4 array(0,1)=3 element(3,0)=0 size(1)=400");
    }

    /** Bytes of a graph with n objects of class Z, which have no fields. */
    private static String manyObjects(int n) {
        StringBuilder s = new StringBuilder("4f47 01 03 'LZ;' ");
        s.append(String.format("%02x%02x", n & 127 | 128, n >> 7)).append("00".repeat(n));
        return Sentence.graph(s.toString());
    }

    private static void mostObjects() {
        Sentence.of("There are at most 4000 objects, and at most 20000 fields and elements of all of them together; objects that were collected or discarded count, "
            + "too, and the bytes of texts do not.");
        String start = "`class Z{}enum E{K}class C{Text f(){return \"t\";}Z z;}record R(){}` declare()=4 constant(11,0)=1 begin()=1 ";
        // The constant and the text of the classes count, too.
        String full = start + manyObjects(3997) + " read()=3 alive(3999)=true alive(4000)=false ";
        Sentence.run(full + "make(10)=4000 make(10)=-12 make(12)=-12 record(13)=-12 array(4,0)=-12 `a`text()=-12 "
            + "`t`text()=2 " + manyObjects(128) + " read()=-12 place()=-1 `from z in Z give \"a\"` ask(9)=-12 steps()=0"
            + " `from e in E give \"t\"` ask(9)=1 alive(4000)=true alive(4001)=false");
        Sentence.run(full + "record(13)=4000 record(13)=-12");
        Sentence.run(full + "array(4,0)=4000 cloned(4000)=-12 array(4,0)=-12");
        Sentence.run(full + "`a`text()=4000 `b`text()=-12 `a`text()=4000");
        Sentence.run(full + "`from e in E give \"a\",\"b\"` ask(9)=-12 `from e in E give \"a\",\"a\",\"t\"` ask(9)=1 answer(0,0)=4000 answer(0,1)=4000 answer(0,2)=2 "
            + "make(10)=-12");
        Sentence.run(full + Sentence.graph("4f47 01 06 'LText;' 03 00 01 'a' 00 01 't' 00 01 'b'") + " read()=-12 " + Sentence.graph("4f47 01 06 'LText;' 03 00 01 'a' "
            + "00 01 't' 00 01 'a'") + " read()=4000");
        Sentence.run(start + manyObjects(3998) + " read()=3 make(10)=-12");
        Sentence.run(start + manyObjects(3999) + " read()=-12 make(10)=3");
        // Discarded and collected objects count.
        Sentence.run(full + "drop(1)=true begin()=2 make(10)=4000 make(10)=-12");
        Sentence.run(start + manyObjects(2000) + " read()=3 drop(1)=true `a`text()=2003 sweep(0)=1 `a`text()=2004 "
            + "begin()=2 " + manyObjects(1996) + " read()=2005 make(10)=-12 drop(2)=true");
        // What exists already needs no room, and what had none has none later.
        Sentence.run(full + "make(10)=4000 " + Sentence.graph("4f47 02 03'LE;' 06'LText;' 02 00 "
            + "00 01 01't'") + " read()=1 " + Sentence.graph("4f47 01 06'LText;' 01 00 01't'") + " read()=2");
        String three = Sentence.graph("4f47 01 06'LText;' 03 00 01 'a' 00 01 't' 00 01 'b'");
        Sentence.run(full + three + " read()=-12 " + three + " read()=-12 alive(4000)=false `from e in E give \"a\",\"b\"` ask(9)=-12 `from e in E give \"a\",\"b\"` "
            + "ask(9)=-12 `c`text()=4000 " + three + " read()=-12 `from e in E give \"a\"` ask(9)=-12"
            + " `a`text()=-12 alive(4001)=false");
        Sentence.run(start + manyObjects(3996) + " read()=3 array(4,0)=3999 cloned(3999)=4000 cloned(3999)=-12");
        // The last object is an object like others.
        Sentence.run(start + manyObjects(3996) + " read()=3 make(12)=3999 make(10)=4000 put(3999,0,8,4000)=0 get(3999,0)=4000 root(0,4000)=0 root(0,4001)=-14 "
            + "put(3999,0,8,4001)=-14 argument(8,4000)=1 `x`call(3999,9)=-1 keep(1)=-12 write(3999)"
            + " same(4000,4000)=1 at(0)=79 kindOf(4000)=10 drop(1)=true crash(0)=true reopen()=0 view(0)=true alive(4000)=false alive(3)=false");
        // A patch that needs one more.
        Sentence.run(start + manyObjects(3994) + " read()=3 make(12)=3997 make(12)=3998 put(3998,0,8,4)=0 patch(3997,3998)=2 row(0,0)=2 record(13)=3999 apply()=0 "
            + "get(3997,0)=4000 patch(3997,3998)=0");
        Sentence.run(start + manyObjects(3995) + " read()=3 make(12)=3998 make(12)=3999 put(3999,0,8,4)=0 patch(3998,3999)=2 record(13)=4000 apply()=-12 get(3998,0)=0");
    }

    /** Fills up to 19600 fields and elements: objects 1 to 49. */
    private static String arrays(int n) {
        return "array(5,400) ".repeat(n);
    }

    private static void mostElements() {
        Sentence.of("There are at most 4000 objects, and at most 20000 fields and elements of all of them together;");
        String start = "`class C{int a;int b;C c;}record R(int a,int b){}class Z{}` declare()=3 begin()=1 ";
        Sentence.run(start + arrays(50) + "array(4,1)=-12 array(4,0)=51 make(10)=-12 make(12)=52 argument(4,1)=1 argument(4,1)=2 record(11)=-12 cloned(1)=-12 "
            + "cloned(51)=53 `from z in Z give \"a\"`ask(9)=1 answer(0,0)=54 `" + "x".repeat(1000) + "`text()=55 "
            + Sentence.graph("4f47 01 03 'LZ;' 01 00") + " read()=56 " + Sentence.graph("4f47 01 02 '[I' 01 00 "
            + "01 00000000") + " read()=-12 " + Sentence.graph("4f47 01 02 '[I' 01 00 00") + " read()=57");
        String most = start + arrays(49) + "array(4,397)=50 ";
        Sentence.run(most + "make(10)=51 make(10)=-12 array(4,1)=-12");
        Sentence.run(most + "array(4,4)=-12 array(4,3)=51 array(4,1)=-12");
        Sentence.run(most + "argument(4,1)=1 argument(4,1)=2 record(11)=51 argument(4,1)=1 argument(4,1)=2 record(11)=-12 array(4,1)=52");
        Sentence.run(most + Sentence.graph("4f47 01 03 'LC;' 02 00 00000000 00000000 00 00 00000000 "
            + "00000000 00") + " read()=-12 " + Sentence.graph("4f47 01 03 'LC;' 01 00 00000000 00000000 00") + " read()=51 array(4,1)=-12");
        Sentence.run(start + arrays(49) + "array(4,200)=50 cloned(1)=-12 cloned(50)=51 cloned(50)=-12 array(4,1)=-12");
        Sentence.run(start + arrays(49) + "array(4,201)=50 cloned(50)=-12 array(4,199)=51");
        // Discarded and collected ones count.
        Sentence.run(start + arrays(49) + "drop(1)=true begin()=2 array(4,400)=50 array(4,1)=-12");
        Sentence.run(start + arrays(10) + "root(0,1)=0 keep(1)=1 sweep(1)=9 begin()=2 " + arrays(40) + "array(4,1)=-12");
        // A patch with a new object of three fields.
        String patched = "make(10)=1 make(10)=2 make(10)=3 put(2,2,8,3)=0 patch(1,2)=2 ";
        Sentence.run(start + patched + arrays(49) + "array(4,388)=53 apply()=0 get(1,2)=54 array(4,1)=-12");
        Sentence.run(start + patched + arrays(49) + "array(4,389)=53 apply()=-12 get(1,2)=0 array(4,2)=54");
    }

    private static void mostChanges() {
        Sentence.of("In addition, whenever a transaction changes, for the first time, an object that it did not create, the number of its fields or elements is added "
            + "to a total, which must not exceed 60000 in the whole life of the"
            + " database (a crash does not reset it). What would exceed one of these limits is code 12.");
        // Objects 1 to 11 are arrays of 400, 12 and 13 of 397 and 33 elements, 14 and 15 have 3 fields, 16 has one element; all of them are version 1.
        StringBuilder s = new StringBuilder("`class C{int a;int b;C c;}` declare()=1 begin()=1 " + arrays(11) + "array(5,397)=12 array(4,33)=13 make(10)=14 make(10)=15 "
            + "array(4,1)=16 keep(1)=1 ");
        for (int act = 2; act <= 13; act++) {
            s.append("begin()=").append(act).append(' ');
            for (int t = 1; t <= 12; t++) {
                s.append("set(").append(t).append(",0,4,1)=0 ");
            }
            s.append("set(1,1,4,2)=0 set(12,396,4,3)=0 drop(").append(act).append(")=true ");
        }
        // 12 times 4797 until now; with six arrays of 400 and the one of 33 it is 59997: one object with three fields has room.
        s.append("begin()=14 set(1,0,4,1)=0 set(2,0,4,1)=0 set(3,0,4,1)=0 set(4,0,4,1)=0 set(5,0,4,1)=0 set(6,0,4,1)=0 set(13,32,4,1)=0 ");
        ObjectHouse x = Sentence.run(s + "set(7,0,4,1)=-12 element(7,0)=0 copy(1,0,7,0,1)=-12 copy(1,0,7,0,0)=0 put(14,0,4,7)=0 put(15,0,4,7)=-12 get(15,0)=0 "
            + "set(16,0,4,1)=-12 put(14,1,4,8)=0 set(5,7,4,9)=0"
            + " make(10)=17 put(17,0,4,1)=0 array(4,1)=18 set(18,0,4,1)=0 copy(18,0,16,0,1)=-12 copy(16,0,18,0,1)=0 drop(14)=true begin()=15 put(14,0,4,1)=-12 "
            + "set(16,0,4,1)=-12 root(0,14)=0 keep(15)=2");
        Sentence.run(x, "begin()=16 patch(15,14)=0 apply()=0 drop(16)=true crash(99999)=true reopen()=2 begin()=1 set(16,0,4,1)=-12 element(16,0)=0 array(4,1)=19 "
            + "set(19,0,4,1)=0 drop(1)=true");
        // Two rows of a patch change one object only once.
        Sentence.run(s + "make(10)=17 put(17,0,4,5)=0 put(17,1,4,6)=0 patch(14,17)=2 apply()=0 get(14,1)=6 put(15,0,4,1)=-12");
        // A patch changes one object of version 1, or two.
        Sentence.run(s + "make(10)=17 make(10)=18 put(17,0,4,5)=0 patch(14,17)=1 apply()=0 get(14,0)=5 patch(15,17)=1 apply()=-12 get(15,0)=0 patch(18,17)=1 apply()=0 "
            + "get(18,0)=5");
        Sentence.run(s + "set(16,0,4,1)=0 make(10)=17 put(17,0,4,5)=0 patch(14,17)=1 apply()=-12 get(14,0)=0 put(14,0,4,1)=-12");
        Sentence.run(s + "copy(12,0,16,0,1)=-1 array(4,1)=17 copy(17,0,16,0,1)=0 copy(17,0,16,0,1)=0 put(14,0,4,1)=-12");
        Sentence.run(s + "make(10)=17 make(10)=18 put(17,0,4,5)=0 put(17,2,8,18)=0 put(18,0,4,6)=0 put(14,2,8,15)=0 patch(14,17)=2 row(0,1)=14 row(1,1)=15 apply()=-12 "
            + "get(14,0)=0 get(15,0)=0");
    }

    private static void versions() {
        Sentence.of("After declare there is version 0, with the constants and texts, and null in all roots.");
        Sentence.run("`enum E{K}class C{Text f(){return \"a\";}}` declare()=2 newest()=0 view(0)=true alive(1)=true alive(2)=true alive(3)=false rootAt(0)=0 "
            + "rootAt(15)=0 view(1)=false");
        Sentence.of("A transaction begins with the newest version; it sees this version with its own changes. At most 8 transactions are open.");
        String eight = "`class C{int n;}` declare()=1 begin()=1 begin()=2 begin()=3 begin()=4 begin()=5 begin()=6 begin()=7 begin()=8 ";
        Sentence.run(eight + "begin()=-12 begin()=-12 make(10)=1 use(8)=true alive(1)=true use(1)=true alive(1)=false keep(3)=1 begin()=9 begin()=-12 drop(9)=true "
            + "begin()=10 use(9)=false use(10)=true begin()=-12"
            + " keep(10)=2 newest()=2 crash(0)=true reopen()=1 begin()=1 begin()=2 begin()=3 begin()=4 begin()=5 begin()=6 begin()=7 begin()=8 begin()=-12");
        Sentence.run("`class C{int n;}` declare()=1 begin()=1 make(10)=1 put(1,0,4,5)=0 keep(1)=1 begin()=2 get(1,0)=5 put(1,0,4,6)=0 begin()=3 get(1,0)=5 keep(2)=2 "
            + "get(1,0)=5 begin()=4 get(1,0)=6 view(1)=true get(1,0)=5"
            + " view(2)=true get(1,0)=6 view(0)=true get(1,0)=0 code()=14");
        Sentence.of("A transaction is committed as the next version (the last possible one is version 64), or it conflicts, or it is discarded.");
        StringBuilder s = new StringBuilder("`class C{int n;}` declare()=1 begin()=1 make(10)=1 root(0,1)=0 keep(1)=1 ");
        for (int v = 2; v <= 64; v++) {
            s.append("begin()=").append(v).append(v % 8 == 0 ? " put(1,0,4," + v + ")=0" : "").append(" keep(").append(v).append(")=").append(v).append(' ');
        }
        Sentence.run(s + "newest()=64 clash()=-1 begin()=65 put(1,0,4,1)=0 begin()=66 get(1,0)=64 keep(66)=-12 keep(65)=-12 newest()=64 use(65)=true get(1,0)=1 "
            + "drop(66)=true view(1)=true get(1,0)=0 view(16)=true"
            + " get(1,0)=16 view(63)=true get(1,0)=56 view(64)=true get(1,0)=64 view(65)=false view(64)=true drop(65)=true sweep(64)=0 view(63)=false begin()=67 "
            + "keep(67)=-12 crash(9999)=true reopen()=64"
            + " view(64)=true get(1,0)=64 begin()=1 keep(1)=-12");
    }

    private static void views() {
        Sentence.of("At first there is no view, and there is none after the transaction that was the view has ended.");
        Sentence.run("`class C{int n;}` declare()=1 alive(1)=false kindOf(1)=-13 begin()=1 make(10)=1 keep(1)=1 kindOf(1)=-13 alive(1)=false make(10)=-13 rootAt(0)=-13 "
            + "begin()=2 begin()=3 keep(2)=2 kindOf(1)=10 drop(3)=true"
            + " kindOf(1)=-13 view(2)=true kindOf(1)=10 begin()=4 view(2)=true drop(4)=true kindOf(1)=10 begin()=5 begin()=6 use(5)=true keep(6)=3 kindOf(1)=10 "
            + "use(6)=false kindOf(1)=10 view(9)=false kindOf(1)=10 begin()=7"
            + " put(1,0,4,1)=0 begin()=8 put(1,0,4,1)=0 keep(8)=4 kindOf(1)=-13 keep(7)=-1 use(7)=true keep(7)=-1 kindOf(1)=10 put(1,0,4,2)=0");
        Sentence.of("An object is alive in a view if it was created by a transaction that was committed up to this version (for a transaction: the version with which "
            + "it began), or by the transaction itself, and has not been collected.");
        Sentence.run("`class C{int n;}` declare()=1 begin()=1 make(10)=1 begin()=2 make(10)=2 alive(1)=false alive(2)=true use(1)=true alive(1)=true alive(2)=false "
            + "keep(2)=1 alive(2)=false view(0)=true alive(2)=false view(1)=true"
            + " alive(2)=true alive(1)=false begin()=3 alive(2)=true alive(1)=false keep(1)=2 alive(1)=false view(1)=true alive(1)=false view(2)=true alive(1)=true "
            + "alive(2)=true keep(3)=3 sweep(2)=2 alive(1)=false alive(2)=false"
            + " begin()=4 alive(1)=false kindOf(1)=-14 alive(0)=false alive(-1)=false alive(3)=false alive(2147483647)=false alive(-2147483648)=false");
        Sentence.of("There are 16 roots, numbered from 0; each version and each transaction has an object or null in each root.");
        Sentence.run("`class C{int n;}` declare()=1 begin()=1 make(10)=1 root(0,1)=0 root(15,1)=0 root(16,1)=-2 root(-1,1)=-2 root(7,0)=0 rootAt(0)=1 rootAt(15)=1 "
            + "rootAt(7)=0 rootAt(16)=-2 rootAt(-1)=-2 keep(1)=1 begin()=2"
            + " rootAt(0)=1 root(0,0)=0 rootAt(0)=0 view(1)=true rootAt(0)=1 rootAt(15)=1 rootAt(14)=0 view(0)=true rootAt(15)=0 use(2)=true rootAt(0)=0 rootAt(15)=1 "
            + "keep(2)=2"
            + " view(2)=true rootAt(0)=0 rootAt(15)=1 view(1)=true rootAt(0)=1 root(0,0)=-13 root(99,99)=-13 begin()=3 root(99,99)=-14 root(0,2147483647)=-14 "
            + "root(0,-1)=-14 root(2147483647,0)=-2");
    }

    // Types: 10 I, 11 P, 12 C, 13 Z, 14 R, 15 E, 16 int[], 17 P[], 18 C[]. Objects of version 1: 1 and 2 constants; 3 and 4 P, 5 int[2], 6 P[2], 7 C, 8 Z, 9 R, 10
    // int[0], 11 C[2]; root 0 is 3.
    private static final String CLASSES = "`interface I{}class P implements I{int n;P p;P[] a;int f(){return n;}int g(){return p.n;}boolean h(){return p instanceof "
        + "C;}int len(){return a.length;}int at(int i){return a[i].n;}"
        + "int every(){return count q in a:true;}int none(){return count q in a:false;}P same(){return (P)(I)p;}int over(){return count q in C:true;}}class C extends "
        + "P{}class Z{}record R(int n,P p) implements I{}enum E{K,L}` declare()=6 "
        + "`[I`kind()=17 `[LP;`kind()=16 `[LC;`kind()=18 ";

    private static final String START = CLASSES + "begin()=1 make(11)=3 make(11)=4 array(4,2)=5 array(11,2)=6 make(12)=7 make(13)=8 argument(4,1)=1 argument(8,3)=2 "
        + "record(14)=9 array(4,0)=10 array(12,2)=11"
        + " put(3,1,8,4)=0 put(3,2,8,6)=0 set(6,0,8,7)=0 set(6,1,8,3)=0 root(0,3)=0 keep(1)=1 begin()=2 ";

    /** Transaction 2 makes the first calls, another one the others; the conflict that is due, or -1. */
    private static void meets(int due, String calls, String others) {
        Sentence.run(START + calls + " begin()=3 " + others + " keep(3)=2 keep(2)=" + (due < 0 ? "3" : "-1") + " clash()=" + due);
    }

    private static final String CHANGE = "put(#,0,4,9)=0";
    private static final String[] CHANGES = {"", "", "", CHANGE, CHANGE, "set(#,0,4,9)=0", "set(#,0,8,0)=0", CHANGE, "", "", "", "set(#,0,8,0)=0"};

    /** Which of the objects 3 to 7 and 11 transaction 2 reads with these calls: all those that are told, and no other. */
    private static void readsOnly(String calls, int... read) {
        for (int t : new int[] {3, 4, 5, 6, 7, 11}) {
            boolean isRead = false;
            for (int r : read) {
                isRead = isRead || r == t;
            }
            meets(isRead ? t : -1, calls, CHANGES[t].replace("#", "" + t));
        }
    }

    private static void reads() {
        Sentence.of("What a transaction reads: an object if one of its fields or elements is read in its view, by get, element, copy, cloned, expressions, write, same, "
            + "patch or range");
        readsOnly("");
        readsOnly("get(3,0)=0 code()=0", 3);
        readsOnly("get(3,1)=4", 3);
        readsOnly("element(5,1)=0", 5);
        readsOnly("element(6,0)=7", 6);
        readsOnly("array(4,2)=12 copy(5,0,12,0,1)=0", 5);
        readsOnly("array(11,2)=12 copy(6,0,12,1,1)=0", 6);
        readsOnly("cloned(5)=12", 5);
        readsOnly("cloned(6)=12", 6);
        readsOnly("`f`call(3,9)=0", 3);
        readsOnly("`g`call(3,9)=0", 3, 4);
        readsOnly("`g`call(4,9)=-3", 4);
        readsOnly("`h`call(3,9)=0", 3);
        readsOnly("`len`call(3,9)=0", 3);
        readsOnly("argument(4,0)=1 `at`call(3,9)=0", 3, 6, 7);
        readsOnly("argument(4,2)=1 `at`call(3,9)=-2", 3);
        readsOnly("`every`call(3,9)=0", 3, 6);
        readsOnly("`none`call(3,9)=0", 3, 6);
        readsOnly("`same`call(3,9)=0", 3);
        readsOnly("`from p in P where p.n==5 give p` ask(99)=0", 3, 4, 7);
        readsOnly("`from p in C where p.n==5 give p` ask(99)=0", 7);
        readsOnly("`from p in P give p,p instanceof C,p==null,(I)p` ask(99)=3");
        readsOnly("`from r in R,q in r.p.a give q` ask(99)=2", 3, 6);
        readsOnly("write(7)=19", 7);
        readsOnly("write(3) at(0)=79", 3, 4, 6, 7);
        readsOnly("write(6) at(0)=79", 3, 4, 6, 7);
        readsOnly("write(5) at(0)=79", 5);
        readsOnly("same(3,3)=1", 3, 4, 6, 7);
        readsOnly("same(4,7)=0");
        readsOnly("same(3,4)=0", 3, 4);
        readsOnly("patch(3,4)=2", 3, 4);
        readsOnly("patch(5,5)=0", 5);
        readsOnly("range(11,0,1,0)=0", 3, 4, 7);
        readsOnly("range(12,0,0,0)=1", 7);
        readsOnly("range(14,0,1,1)=1");
        Sentence.of("Both hold also if the value stays the same.");
        meets(3, "get(3,1)=4", "put(3,1,8,4)=0");
        meets(5, "element(5,0)=0", "set(5,1,4,0)=0");
        meets(5, "element(5,0)=0", "copy(5,0,5,0,2)=0");
        meets(3, "put(3,0,4,0)=0", "put(3,0,4,0)=0");
        meets(0, "root(0,3)=0", "root(0,3)=0");
        Sentence.of("(cloned, write, same and patch read the object also if it has no fields or elements, but same does not read texts and constants)");
        // What an open transaction has read stays.
        Sentence.run(START + "sweep(1)=5 alive(8)=false alive(10)=false alive(9)=false alive(11)=false alive(5)=false");
        Sentence.run(START + "cloned(10)=12 sweep(1)=4 alive(10)=true alive(8)=false");
        Sentence.run(START + "write(8)=13 sweep(1)=4 alive(8)=true alive(10)=false");
        Sentence.run(START + "write(10) sweep(1)=4 alive(10)=true");
        Sentence.run(START + "same(8,8)=1 sweep(1)=4 alive(8)=true");
        Sentence.run(START + "same(10,10)=1 sweep(1)=4 alive(10)=true");
        Sentence.run(START + "patch(8,8)=0 sweep(1)=4 alive(8)=true");
        Sentence.run(START + "patch(10,10)=0 sweep(1)=4 alive(10)=true");
        Sentence.run(START + "kindOf(8)=13 size(10)=0 `from z in R give z` ask(9)=1 element(10,0)=0 get(8,0)=0 sweep(1)=4 alive(8)=false alive(10)=false alive(9)=true");
        Sentence.run(START + "`t`text()=12 same(12,12)=1 letter(12,0)='t' size(12)=1 sweep(1)=6 alive(12)=false");
        Sentence.run(START + "`t`text()=12 write(12) sweep(1)=5 alive(12)=true");
        Sentence.run(START + "same(1,1)=1 write(1) sweep(1)=5 alive(1)=true alive(2)=true");
    }

    private static void readsNothing() {
        Sentence.of("A call that returns an error code changes nothing (but for the tray, the arguments, and what place, clash, answered and steps tell) and reads "
            + "nothing, with these exceptions:");
        readsOnly("get(3,3)=0 code()=14 get(3,-1)=0 get(5,0)=0 code()=1");
        readsOnly("element(5,2)=0 code()=2 element(5,-1)=0 element(3,0)=0 code()=1");
        readsOnly("array(4,2)=12 copy(5,0,12,0,3)=-2 copy(5,1,12,0,2)=-2 copy(5,-1,12,0,1)=-2 copy(5,0,6,0,1)=-1 copy(5,0,0,0,1)=-3 copy(5,0,99,0,1)=-14 "
            + "copy(5,0,12,0,0)=0 copy(5,2,12,2,0)=0");
        readsOnly("cloned(3)=-1 cloned(0)=-3 cloned(99)=-14");
        readsOnly("same(3,0)=-3 same(0,3)=-3 same(3,99)=-14 same(99,3)=-14 patch(3,0)=-3 patch(3,99)=-14 patch(3,7)=-1 patch(5,10)=-1 patch(1,1)=-1");
        readsOnly("range(11,0,2147483648,0)=-1 range(11,1,0,0)=-1 range(11,3,0,0)=-14");
        readsOnly("`f`call(3,0)=-10 `f`call(3,-1)=-1 `f`call(3,100001)=-1 `x`call(3,9)=-1 argument(4,1)=1 `f`call(3,9)=-1 argument(8,99)=1 `f`call(3,9)=-14");
        readsOnly("`from p in P where p.n==5 give p` ask(0)=-10 `from p in P where p.n==5 give p` ask(-1)=-1 `from p in P where p.n give p` ask(9)=-22 `from p in P "
            + "where p.n==5 give` ask(9)=-21");
        readsOnly("kindOf(3)=11 size(5)=2 alive(3)=true put(3,0,5,1)=-1 put(3,9,4,1)=-14 set(5,2,4,1)=-2 set(5,0,5,1)=-1 put(3,0,99,1)=-14 set(6,0,8,5)=-1 "
            + "put(9,0,4,1)=-5");
        Sentence.of("copy with -6 has changed b as said there;");
        readsOnly("array(12,2)=12 copy(6,0,12,0,2)=-6 element(12,0)=7 element(12,1)=0", 6);
        readsOnly("copy(6,0,11,0,2)=-6 element(11,0)=7", 6, 11);
        readsOnly("copy(6,1,11,0,1)=-6 copy(11,0,6,0,2)=0", 6, 11);
        Sentence.of("call or ask that fails during evaluation changes nothing (texts that it created remain), but has read what it read.");
        readsOnly("`f`call(3,1)=0", 3);
        readsOnly("`g`call(3,1)=-10", 3);
        readsOnly("`g`call(3,0)=-10");
        readsOnly("argument(4,0)=1 `at`call(3,1)=-10", 3);
        readsOnly("argument(4,0)=1 `at`call(3,2)=-10", 3, 6);
        readsOnly("`none`call(3,2)=-10", 3);
        readsOnly("`none`call(3,3)=-10", 3, 6);
        readsOnly("`from p in P where p.n==5 give p` ask(1)=-10");
        readsOnly("`from p in P where p.n==5 give p` ask(2)=-10", 3);
        readsOnly("`from p in P where p.n==5 give p` ask(5)=-10", 3, 4);
        readsOnly("`from p in P give p.n/0` ask(99)=-8", 3);
        Sentence.of("write reads all objects of the walk, also with -12.");
        StringBuilder many = new StringBuilder();
        for (int i = 0; i < 7; i++) {
            many.append(i == 0 ? "array(8,9)=12 " : "").append("array(5,400)=").append(13 + i).append(" set(12,").append(i).append(",8,").append(13 + i).append(")=0 ");
        }
        readsOnly(many + "set(12,7,8,3)=0 set(12,8,8,11)=0 write(12)=-12 at(0)=-1", 3, 4, 6, 7, 11);
        Sentence.of("copy reads a if n is greater than 0, also with -6.");
        readsOnly("array(4,2)=12 copy(5,0,12,0,0)=0");
        readsOnly("array(4,2)=12 copy(5,1,12,0,1)=0", 5);
        Sentence.of("same reads both objects of each pair, except texts and constants, when its turn comes (types and sizes are compared when two objects are met, "
            + "which reads nothing).");
        readsOnly("same(5,10)=0");
        readsOnly("same(3,5)=0");
        readsOnly("make(11)=12 put(12,1,8,7)=0 same(3,12)=0", 3);
        readsOnly("make(11)=12 put(12,0,4,1)=0 put(12,1,8,4)=0 same(3,12)=0", 3);
        readsOnly("make(11)=12 put(12,1,8,4)=0 put(12,2,8,6)=0 same(3,12)=0", 3, 4, 6);
        readsOnly("make(11)=12 put(12,1,8,4)=0 cloned(6)=13 put(12,2,8,13)=0 set(13,0,8,3)=0 same(3,12)=0", 3, 4, 6);
        Sentence.of("patch reads both objects of each pair, and the original of each new object, when its turn comes, also with -12.");
        readsOnly("make(11)=12 patch(12,3)", 3, 4, 6, 7);
        readsOnly("make(11)=12 patch(3,12)=2", 3);
        readsOnly("make(11)=12 put(12,1,8,4)=0 patch(12,3)", 3, 4, 6, 7);
        // 2000 rows come before the turn of the last pair: object 3.
        StringBuilder rows = new StringBuilder("array(8,7)=12 array(8,7)=13 ");
        for (int i = 0; i < 6; i++) {
            rows.append("array(0,400)=").append(14 + 2 * i).append(" array(0,400)=").append(15 + 2 * i).append(" set(12,").append(i).append(",8,").append(14
                + 2 * i).append(")=0 set(13,").append(i).append(",8,")
                .append(15 + 2 * i).append(")=0 ");
        }
        Sentence.run(START + rows + "set(12,6,8,3)=0 set(13,6,8,3)=0 patch(12,13)=0 begin()=3 put(4,0,4,1)=0 keep(3)=2 keep(2)=-1 clash()=4");
        Sentence.run(START + rows + "set(12,6,8,3)=0 set(13,6,8,3)=0 " + shorter() + "patch(12,13)=-12 row(0,0)=0 begin()=3 put(4,0,4,1)=0 keep(3)=2 keep(2)=3");
        Sentence.of("apply reads, row by row, each x greater than 0 of a SET that is alive and has the index, also with -12 and -15, up to the row at which it ends "
            + "(there x is examined first, then the object to which the row refers).");
        // The rows are SET 3 0 0 5, SET 3 2 6 0, SET 4 0 0 6; what apply itself reads is seen in a later transaction.
        String patch = "make(11)=12 make(11)=13 put(12,0,4,5)=0 put(12,1,8,13)=0 put(13,0,4,6)=0 patch(3,12)=3 row(0,1)=3 row(1,1)=3 row(1,2)=2 row(2,1)=4 drop(2)=true ";
        Sentence.run(START + patch + "begin()=3 apply()=0 begin()=4 put(4,1,8,0)=0 keep(4)=2 keep(3)=-1 clash()=4");
        Sentence.run(START + patch + "begin()=3 put(3,0,4,1)=0 keep(3)=2 begin()=4 apply()=-15 begin()=5 put(3,0,4,2)=0 keep(5)=3 keep(4)=-1 clash()=3");
        Sentence.run(START + patch + "begin()=3 put(3,0,4,1)=0 keep(3)=2 begin()=4 apply()=-15 begin()=5 put(4,0,4,2)=0 put(6,0,4,2)=-1 keep(5)=3 keep(4)=4");
        Sentence.run(START + patch + "begin()=3 put(3,2,8,0)=0 keep(3)=2 begin()=4 apply()=-15 begin()=5 put(4,0,4,2)=0 keep(5)=3 keep(4)=4");
        Sentence.run(START + patch + "begin()=3 put(4,0,4,1)=0 keep(3)=2 begin()=4 apply()=-15 begin()=5 put(4,0,4,2)=0 keep(5)=3 keep(4)=-1 clash()=4");
        Sentence.run(START + patch + "begin()=3 put(4,0,4,1)=0 keep(3)=2 begin()=4 apply()=-15 get(4,0)=1 begin()=5 put(3,0,4,2)=0 keep(5)=3 keep(4)=-1 clash()=3");
        // The text to which the row refers has been collected: the object has been read; an object that is not alive has not.
        Sentence.run("`class C{Object o;}` declare()=1 begin()=1 make(10)=1 root(0,1)=0 keep(1)=1 begin()=2 make(10)=2 `t`text()=3 put(2,0,8,3)=0 patch(1,2)=1 "
            + "drop(2)=true sweep(1)=1 begin()=3 apply()=-15"
            + " begin()=4 put(1,0,8,0)=0 keep(4)=2 keep(3)=-1 clash()=1");
        Sentence.run("`class C{int n;}` declare()=1 begin()=1 make(10)=1 keep(1)=1 begin()=2 make(10)=2 put(2,0,4,5)=0 patch(1,2)=1 drop(2)=true sweep(1)=1 begin()=3 "
            + "apply()=-15 sweep(1)=0 keep(3)=2");
        // No room for the new object.
        Sentence.run("`class Z{}class C{C c;}` declare()=2 begin()=1 make(11)=1 keep(1)=1 begin()=2 make(11)=2 make(11)=3 put(2,0,8,3)=0 patch(1,2)=2 drop(2)=true "
            + "begin()=3 " + manyObjects(3997)
            + " read()=4 apply()=-12 begin()=4 put(1,0,8,0)=0 keep(4)=2 keep(3)=-1 clash()=1");
        Sentence.run(START + "put(7,0,4,3)=0 make(12)=12 patch(7,12)=1 put(7,0,4,4)=0 apply()=-15 put(7,0,4,3)=0 apply()=0 get(7,0)=0");
    }

    private static String shorter() {
        // Every array of booleans that is on the right side is filled by copies, which double.
        StringBuilder s = new StringBuilder("set(15,0,0,1)=0 ");
        for (int n = 1; n < 400; n *= 2) {
            s.append("copy(15,0,15,").append(n).append(",").append(Math.min(n, 400 - n)).append(")=0 ");
        }
        for (int t = 17; t <= 25; t += 2) {
            s.append("copy(15,0,").append(t).append(",0,400)=0 ");
        }
        return s.toString();
    }

    private static void changes() {
        Sentence.of("What it changes: an object, by put, set, copy (the target, if n is greater than 0, also with -6) or apply, if it did not create the object itself; "
            + "a root, by root.");
        readsOnly("put(3,0,4,1)=0", 3);
        readsOnly("put(3,0,4,0)=0", 3);
        readsOnly("set(5,0,4,0)=0", 5);
        readsOnly("array(4,2)=12 copy(12,0,5,0,1)=0", 5);
        readsOnly("array(4,2)=12 copy(12,0,5,0,0)=0");
        readsOnly("array(4,2)=12 copy(12,0,5,0,3)=-2");
        readsOnly("array(11,2)=12 set(12,0,8,3)=0 copy(12,0,11,0,1)=-6", 11);
        readsOnly("make(11)=12 put(12,0,4,1)=0 array(4,1)=13 set(13,0,4,1)=0");
        readsOnly("make(12)=12 put(12,0,4,3)=0 patch(7,12)=1 apply()=0", 7);
        // What others only read makes no conflict, whatever they read.
        meets(-1, "put(3,0,4,1)=0 root(0,4)=0", "get(3,0)=0 write(3) rootAt(0)=3 range(11,0,0,0)=3 `from p in P give p.n`ask(99)=3");
        // What both change.
        meets(3, "put(3,0,4,1)=0", "put(3,1,8,0)=0");
        meets(-1, "put(3,0,4,1)=0", "put(4,1,8,0)=0");
    }

    private static void roots() {
        Sentence.of("a root if rootAt reads it;");
        // What the transaction before has read is forgotten.
        Sentence.run(START + "rootAt(0)=3 root(1,0)=0 get(3,0)=0 put(4,0,4,1)=0 `from c in C give c`ask(9)=1 keep(2)=2 begin()=3 begin()=4 root(0,4)=0 root(1,4)=0 "
            + "put(3,0,4,1)=0 put(4,0,4,2)=0 make(12)=12 keep(4)=3 keep(3)=4 begin()=5 keep(5)=5");
        Sentence.run(START + "rootAt(0)=3 get(3,0)=0 `from c in C give c`ask(9)=1 drop(2)=true begin()=3 begin()=4 root(0,4)=0 put(3,0,4,1)=0 make(12)=12 keep(4)=2 "
            + "keep(3)=3");
        for (int i : new int[] {0, 1, 15}) {
            meets(0, "rootAt(" + i + ")", "root(" + i + ",4)=0");
            meets(0, "root(" + i + ",4)=0", "root(" + i + ",4)=0");
            meets(-1, "rootAt(" + (i + 1) % 16 + ")", "root(" + i + ",4)=0");
            meets(-1, "root(" + (i + 1) % 16 + ",3)=0", "root(" + i + ",4)=0");
            meets(-1, "root(" + i + ",3)=0", "rootAt(" + i + ")");
        }
        meets(-1, "rootAt(16)=-2 rootAt(-1)=-2 root(16,3)=-2 root(0,99)=-14", "root(0,4)=0 root(15,4)=0");
        // The roots of others stay in the new version.
        Sentence.run(START + "root(1,4)=0 begin()=3 root(2,5)=0 root(0,0)=0 keep(3)=2 keep(2)=3 view(3)=true rootAt(0)=0 rootAt(1)=4 rootAt(2)=5 view(2)=true "
            + "rootAt(1)=0 rootAt(2)=5");
    }

    private static void classes() {
        Sentence.of("a class if the objects that are alive are gone through by a quantifier, a from part of a query, or range.");
        String[] readers = {"`from c in # give c` ask(9)", "`from c in E where exists d in #:false give c` ask(99)", "`from e in E,c in # give c` ask(99)"};
        for (String reader : readers) {
            created(12, reader.replace("#", "I"), "make(12)=12");
            created(12, reader.replace("#", "P"), "make(12)=12");
            created(12, reader.replace("#", "C"), "make(12)=12");
            created(-1, reader.replace("#", "C"), "make(11)=12");
            created(-1, reader.replace("#", "Z"), "make(12)=12");
            created(12, reader.replace("#", "Z"), "make(13)=12");
            created(12, reader.replace("#", "I"), "record(14)=12");
            created(12, reader.replace("#", "R"), "record(14)=12");
            created(-1, reader.replace("#", "P"), "record(14)=12");
            created(-1, reader.replace("#", "E"), "make(12)=12 `t`text()=13 array(12,1)=14");
        }
        created(12, "range(11,0,0,0)", "make(12)=12");
        created(12, "range(12,0,0,0)", "make(12)=12");
        created(-1, "range(12,0,0,0)", "make(11)=12");
        created(12, "range(14,0,0,0)", "record(14)=12");
        created(12, "`over`call(3,9)=0", "make(12)=12");
        created(-1, "`over`call(3,0)=-10", "make(12)=12");
        created(-1, "range(12,1,0,0)=-1 range(12,9,0,0)=-14 `from c in C give z`ask(9)=-22 `from c in C give c`ask(-1)=-1 same(7,7)=1 write(7) "
            + "cloned(11)=12", "make(12)=13");
        // A source behind an empty one, and a quantifier behind one that has ended, are not gone through.
        created(-1, "`from a in (P[])null,c in C give c` ask(9)=-3", "make(12)=12");
        created(-1, "`from e in E where false&&(exists c in C:true) give e` ask(9)=0", "make(12)=12");
        created(12, "`from e in E where exists c in C:1/0==1 give e` ask(9)=-8", "make(12)=12");
        created(12, "`from c in C give c` ask(0)=-10", "make(12)=12");
        // Its own new objects, texts, and arrays of the class make no conflict.
        created(-1, "make(12)=12 `from c in C give c` ask(9)=2", "array(12,3)=13 `t`text()=14");
        created(-1, "`from c in C give c` ask(9)=1", "put(7,0,4,1)=0");
        created(-1, "`from c in C give c` ask(9)=1", "make(12)=12 drop(3)=true begin()=4", 4);
    }

    private static void created(int due, String calls, String others) {
        created(due, calls, others, 3);
    }

    private static void created(int due, String calls, String others, int act) {
        String arguments = others.contains("record") ? "argument(4,1)=1 argument(8,0)=2 " : "";
        Sentence.run(START + calls + " begin()=3 " + arguments + others + " keep(" + act + ")=2 keep(2)=" + (due < 0 ? "3" : "-1") + " clash()=" + due);
    }

    private static void conflicts() {
        Sentence.of("A transaction conflicts if a transaction that was committed after it began changed a root that it read or changed, or changed an object that it "
            + "read or changed, or created an object (other than a text)"
            + " of a class that it read, or of a subtype of such a class.");
        // Committed before it began, or discarded, or not committed: no conflict.
        Sentence.run(START + "drop(2)=true begin()=3 put(3,0,4,1)=0 root(0,4)=0 make(12)=12 keep(3)=2 begin()=4 get(3,0)=1 rootAt(0)=4 `from c in C give c`ask(9)=2 "
            + "put(3,0,4,2)=0 keep(4)=3");
        Sentence.run(START + "get(3,0)=0 begin()=3 put(3,0,4,1)=0 drop(3)=true keep(2)=2 clash()=-1");
        Sentence.run(START + "get(3,0)=0 begin()=3 put(3,0,4,1)=0 keep(2)=2 clash()=-1 keep(3)=3 view(3)=true get(3,0)=1");
        Sentence.run(START + "put(3,0,4,1)=0 begin()=3 put(3,0,4,2)=0 keep(2)=2 keep(3)=-1 clash()=3 use(3)=true get(3,0)=2 view(2)=true get(3,0)=1 keep(3)=-1 "
            + "drop(3)=true begin()=4 put(3,0,4,2)=0 keep(4)=3");
        // Reads after the other one was committed are of the old version, and conflict, too.
        Sentence.run(START + "begin()=3 put(3,0,4,1)=0 root(1,3)=0 make(12)=12 keep(3)=2 use(2)=true get(3,0)=0 keep(2)=-1 clash()=3");
        Sentence.run(START + "begin()=3 put(3,0,4,1)=0 root(1,3)=0 make(12)=12 keep(3)=2 use(2)=true rootAt(1)=0 keep(2)=-1 clash()=0");
        Sentence.run(START + "begin()=3 put(3,0,4,1)=0 root(1,3)=0 make(12)=12 keep(3)=2 use(2)=true `from c in C give c`ask(9)=1 keep(2)=-1 clash()=12");
        // Two versions later, and several at once.
        Sentence.run(START + "get(3,0)=0 begin()=3 put(3,0,4,1)=0 keep(3)=2 begin()=4 put(4,0,4,1)=0 keep(4)=3 keep(2)=-1 clash()=3 begin()=5 get(3,0)=1 keep(5)=4");
        Sentence.of("The conflict is 0 if it is a root; otherwise it is the smallest number of such an object, also of one that has been collected since.");
        meets(3, "get(7,0)=0 get(3,0)=0 put(5,0,4,0)=-1 get(4,0)=0", "put(7,0,4,1)=0 put(4,0,4,1)=0 put(3,0,4,1)=0");
        meets(4, "get(7,0)=0 get(4,0)=0", "put(7,0,4,1)=0 put(4,0,4,1)=0 put(3,0,4,1)=0");
        meets(0, "get(3,0)=0 rootAt(9)=0", "put(3,0,4,1)=0 root(9,0)=0");
        meets(7, "get(7,0)=0 `from c in C give c`ask(9)=1", "make(12)=12 put(7,0,4,1)=0");
        meets(12, "`from c in I give c`ask(9)=4", "make(12)=12 make(11)=13");
        meets(13, "`from c in C give c`ask(9)=1", "make(11)=12 make(12)=13");
        Sentence.run(START + "`from c in C give c`ask(9)=1 begin()=3 make(12)=12 keep(3)=2 sweep(1)=6 view(2)=true alive(12)=false alive(7)=true keep(2)=-1 clash()=12");
    }

    private static void collection() {
        Sentence.of("Collecting from a version on: earlier versions do not exist any more.");
        Sentence.run(START + "keep(2)=2 begin()=3 keep(3)=3 view(0)=true sweep(0)=5 view(0)=true sweep(1)=-1 view(1)=true sweep(1)=0 view(0)=false sweep(0)=-14 "
            + "sweep(2)=-1 view(3)=true"
            + " sweep(2)=0 view(1)=false view(2)=true sweep(3)=-1 view(3)=true sweep(3)=0 sweep(3)=0 view(2)=false sweep(4)=-14 sweep(-1)=-14 sweep(2147483647)=-14 "
            + "sweep(-2147483648)=-14 newest()=3 view(3)=true rootAt(0)=3");
        Sentence.of("All others are collected; their numbers are never used again (but see crashes, section 9).");
        Sentence.run(START + "drop(2)=true sweep(1)=5 begin()=3 make(11)=12 alive(11)=false kindOf(11)=-14 alive(10)=false alive(9)=false alive(8)=false alive(5)=false "
            + "alive(3)=true alive(4)=true alive(6)=true alive(7)=true"
            + " view(0)=false view(1)=true alive(5)=false root(0,3)=-13 sweep(1)=0");
        Sentence.of("-1 if the view is an earlier version, or an open transaction began with an earlier one;");
        Sentence.run("`class C{}` declare()=1 begin()=1 begin()=2 keep(2)=1 view(1)=true sweep(1)=-1 drop(1)=true sweep(1)=0");
        Sentence.run("`class C{}` declare()=1 " + "begin() ".repeat(8) + "keep(3)=1 begin()=9 drop(1)=true drop(2)=true drop(4)=true drop(5)=true drop(6)=true "
            + "drop(7)=true view(1)=true sweep(1)=-1 drop(8)=true sweep(1)=0");
        Sentence.run(START + "keep(2)=2 begin()=3 keep(3)=3 view(2)=true sweep(3)=-1 view(3)=true sweep(3)=5");
        Sentence.run(START + "begin()=3 keep(3)=2 sweep(2)=-1 sweep(1)=5 sweep(2)=-1 keep(2)=3 sweep(2)=0 sweep(3)=0");
        Sentence.run(START + "begin()=3 keep(3)=2 view(2)=true sweep(2)=-1 drop(2)=true sweep(2)=5");
        Sentence.run("`class C{}` declare()=1 sweep(0)=0 sweep(1)=-14 `a`text()=1 sweep(0)=1 sweep(0)=0 logged()=67");
    }

    private static void staying() {
        Sentence.of("The following objects stay: constants and the texts of the class text; what the roots of this version, of later versions and of open "
            + "transactions contain;");
        String start = "`class C{C c;Object o;Text f(){return \"k\";}}enum E{K}class Z{}abstract class A{}class B extends A{int n;}` declare()=5 begin()=1 ";
        // 1 is the constant, 2 the text of the classes.
        Sentence.run(start + "make(10)=3 make(10)=4 make(10)=5 root(0,3)=0 root(15,4)=0 keep(1)=1 begin()=2 root(0,5)=0 keep(2)=2 sweep(1)=0 view(2)=true alive(3)=true "
            + "sweep(2)=1 alive(3)=false alive(4)=true alive(5)=true"
            + " alive(1)=true alive(2)=true begin()=3 root(15,0)=0 keep(3)=3 sweep(2)=0 view(3)=true alive(4)=true sweep(3)=1 alive(4)=false");
        Sentence.run(start + "make(10)=3 make(10)=4 keep(1)=1 begin()=2 root(3,4)=0 sweep(1)=1 alive(4)=true alive(3)=false drop(2)=true sweep(1)=1");
        Sentence.run(start + "`t`text()=3 `u`text()=4 root(1,3)=0 sweep(0)=1 alive(3)=true alive(4)=false drop(1)=true sweep(0)=1");
        // The first and the last root of a transaction; the object with the number 1.
        Sentence.run(start + "make(10)=3 make(10)=4 make(10)=5 keep(1)=1 begin()=2 root(0,4)=0 root(15,5)=0 sweep(1)=1 alive(3)=false alive(4)=true alive(5)=true "
            + "drop(2)=true sweep(1)=2");
        Sentence.run("`class C{Object o;}` declare()=1 begin()=1 make(10)=1 keep(1)=1 begin()=2 get(1,0)=0 sweep(1)=0 drop(2)=true begin()=3 put(1,0,8,0)=0 sweep(1)=0 "
            + "drop(3)=true begin()=4 `from c in C give c`ask(9)=1 sweep(1)=0 drop(4)=true sweep(1)=1");
        // What the first root of an earlier collection referred to is nothing to a later one.
        Sentence.run(start + "make(10)=3 make(10)=4 make(10)=5 put(3,0,8,4)=0 root(0,3)=0 root(1,5)=0 keep(1)=1 sweep(1)=0 begin()=2 root(0,5)=0 keep(2)=2 sweep(2)=2 "
            + "view(2)=true alive(4)=false alive(5)=true");
        // An object of transaction 1, which is not committed, refers to a text.
        Sentence.run(start + "make(10)=3 `t`text()=4 `u`text()=5 put(3,1,8,4)=0 sweep(0)=1 alive(4)=true alive(5)=false put(3,1,8,0)=0 sweep(0)=1 alive(4)=false");
        // The last possible version.
        StringBuilder last = new StringBuilder("`class C{}` declare()=1 ");
        for (int v = 1; v <= 64; v++) {
            last.append("begin()=").append(v).append(v < 63 ? "" : " make(10)="
                + (v - 62)).append(v == 50 ? " root(2,0)=0" : "").append(" keep(").append(v).append(")=").append(v).append(' ');
        }
        Sentence.run(last + "view(64)=true alive(1)=true alive(2)=true sweep(64)=2 alive(1)=false alive(2)=false sweep(64)=0");
        Sentence.of("what an open transaction created (texts are created by no transaction), changed or read, and the objects alive in its view of a class that it "
            + "read, or of a subtype;");
        Sentence.run(start + "make(10)=3 array(4,1)=4 sweep(0)=0 alive(3)=true alive(4)=true drop(1)=true sweep(0)=0");
        Sentence.run(start + "make(10)=3 make(10)=4 array(10,1)=5 keep(1)=1 begin()=2 put(3,0,8,0)=0 sweep(1)=2 alive(3)=true alive(4)=false drop(2)=true sweep(1)=1");
        Sentence.run(start + "make(10)=3 make(10)=4 array(10,1)=5 keep(1)=1 begin()=2 element(5,0)=0 sweep(1)=2 alive(5)=true keep(2)=2 sweep(1)=1 sweep(2)=0");
        Sentence.run(start + "make(14)=3 make(14)=4 make(12)=5 keep(1)=1 begin()=2 `from a in A give a` ask(9)=2 sweep(1)=1 alive(3)=true alive(4)=true alive(5)=false "
            + "drop(2)=true sweep(1)=2");
        Sentence.run(start + "make(14)=3 make(12)=4 keep(1)=1 begin()=2 `from a in Z give a` ask(9)=1 sweep(1)=1 alive(4)=true alive(3)=false");
        Sentence.run(start + "make(14)=3 make(12)=4 keep(1)=1 begin()=2 range(14,0,1,1)=0 sweep(1)=1 alive(3)=true alive(4)=false");
        Sentence.run(start + "make(14)=3 keep(1)=1 begin()=2 `from a in A where a instanceof Z give a` ask(9)=-22 sweep(1)=1");
        // An object of the class that is not alive in its view.
        Sentence.run(start + "make(14)=3 keep(1)=1 begin()=2 `from a in A give a` ask(9)=1 begin()=3 make(14)=4 keep(3)=2 sweep(1)=1 use(2)=true alive(3)=true "
            + "view(2)=true alive(4)=false keep(2)=-1 clash()=4");
        // What the view that is a version has read does not stay.
        Sentence.run(start + "make(10)=3 keep(1)=1 view(1)=true get(3,0)=0 write(3) `from c in C give c` ask(9)=1 rootAt(0)=0 sweep(1)=1 alive(3)=false");
        Sentence.of("and everything to which an object that stays refers, in this version, in a later one, or in an open transaction.");
        // 3 refers to 4 in version 1, to 5 in version 2, to 6 in version 3, to 7 in an open transaction.
        String chain = start + "make(10)=3 make(10)=4 make(10)=5 make(10)=6 make(10)=7 put(3,0,8,4)=0 root(0,3)=0 root(1,5)=0 root(2,6)=0 root(3,7)=0 keep(1)=1 "
            + "begin()=2 put(3,0,8,5)=0 root(1,0)=0 keep(2)=2"
            + " begin()=3 put(3,0,8,6)=0 root(2,0)=0 root(3,0)=0 keep(3)=3 ";
        Sentence.run(chain + "sweep(1)=0 sweep(2)=1 view(3)=true alive(4)=false alive(5)=true alive(6)=true alive(7)=true sweep(3)=2 alive(5)=false alive(6)=true "
            + "alive(7)=false alive(3)=true");
        Sentence.run(chain + "begin()=4 put(3,0,8,7)=0 sweep(3)=2 alive(7)=true alive(6)=true alive(5)=false drop(4)=true sweep(3)=1 view(3)=true alive(7)=false "
            + "alive(6)=true");
        Sentence.run(chain + "begin()=4 put(3,0,8,0)=0 sweep(3)=3 alive(6)=true keep(4)=4 sweep(3)=0 sweep(4)=1 view(4)=true alive(6)=false");
        // Cycles, arrays in arrays, texts.
        Sentence.run(start + "make(10)=3 make(10)=4 array(10,2)=5 array(15,1)=6 `t`text()=7 put(3,0,8,4)=0 put(4,0,8,3)=0 set(5,1,8,3)=0 put(3,1,8,7)=0 root(0,6)=0 "
            + "set(6,0,8,5)=0 keep(1)=1 sweep(1)=0 begin()=2 set(5,1,8,0)=0 keep(2)=2"
            + " sweep(1)=0 sweep(2)=3 view(2)=true alive(3)=false alive(4)=false alive(7)=false alive(5)=true alive(6)=true");
        // An object that a transaction created and that another one's object refers to, not yet committed.
        Sentence.run(start + "make(10)=3 keep(1)=1 begin()=2 make(10)=4 put(4,0,8,3)=0 begin()=3 sweep(1)=0 drop(2)=true sweep(1)=1");
    }
}
