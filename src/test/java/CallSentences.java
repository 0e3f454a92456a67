/** The sentences of section 11 and of the promises that name a boundary: the tray, the views, refused calls, the order of codes. */
public final class CallSentences {
    // Types: 10 S, 11 P, 12 C, 13 E, 14 R, 15 int[], 16 C[], 17 P[]; objects: 1 and 2 constants, 3 a C, 4 int[2], 5 C[2], 6 R, 7 "hey", 8 P[1]; all of them are of
    // transaction 1, the view.
    private static final String CLASSES = "`interface S{}abstract class P{int n;}class C extends P implements S{C c;double d;int f(){return n;}int g(int a,long b,C "
        + "c){return a;}int bad(){return 1/(n-n);}}enum E{K,L}record R(int[] a,C[] c,P[] p){}`"
        + " declare()=5 ";
    private static final String OPEN = CLASSES + "begin()=1 make(12)=3 array(4,2)=4 array(12,2)=5 argument(8,0)=1 argument(8,0)=2 argument(8,0)=3 record(14)=6 "
        + "`hey`text()=7 array(11,1)=8 ";
    private static final String KEPT = OPEN + "root(0,3)=0 root(1,4)=0 root(2,5)=0 root(3,6)=0 root(4,7)=0 root(5,8)=0 keep(1)=1 ";

    public static void main(String[] args) {
        tray();
        emptied();
        argumentsUsed();
        states();
        order();
        declaring();
        places();
        kinds();
        fieldsOfTypes();
        fitting();
        transactions();
        making();
        arguments();
        recordsAndArrays();
        textsAndConstants();
        reading();
        putting();
        copying();
        rootsAndAlive();
        calling();
        asking();
        ranges();
        graphs();
        failedCalls();
        Check.end("CallSentences");
    }

    private static void tray() {
        Sentence.of("Appends twenty bytes to the tray: the four bytes of each parameter, from the highest to the lowest.");
        // class Ab{int a;}
        Sentence.run("feed(1668047219,1931493730,2070507124,543243133,538976288)=20 declare()=1 `a`named(10)=0 `LAb;`kind()=10");
        Sentence.run("`class A{}` declare()=1 feed(-1,-2147483648,2147483647,0,1)=20 text()=-1 end(0)=0 feed(2122219134,0,0,0,0)=20 end(4)=4 text()=1 letter(1,0)=-13 "
            + "size(1)=-13 view(0)=true size(1)=4 letter(1,0)='~' letter(1,3)='~'");
        Sentence.of("`n`: the number of bytes to keep, 0 to the number of bytes in the tray");
        Sentence.run("end(0)=0 end(1)=-1 end(-1)=-1 feed(0,0,0,0,0)=20 end(21)=-1 end(-1)=-1 end(2147483647)=-1 end(-2147483648)=-1 end(20)=20 end(19)=19 end(20)=-1 "
            + "feed(0,0,0,0,0)=39 end(40)=-1 end(39)=39 end(0)=0 end(1)=-1");
        Sentence.of("Returns n; -1 if n is not allowed, and then nothing changes.");
        Sentence.run("`class A{}` end(-1)=-1 end(10)=-1 end(2147483647)=-1 declare()=1 `class A{}` end(9)=9 end(0)=0 end(9)=-1 end(0)=0");
        // What end took away does not come back.
        Sentence.run("`class A{}class B{}` end(9)=9 feed(538976288,538976288,538976288,538976288,538976288)=29 declare()=1 kinds()=11");
        Sentence.beyond("Returns the number of bytes in the tray afterwards; -1 if there would be more than 65540, and then nothing changes.");
        Sentence.run("feed(0,0,0,0,0) ".repeat(3276) + "end(65520)=65520 feed(0,0,0,0,0)=65540 feed(1,1,1,1,1)=-1 end(65541)=-1 end(65540)=65540 end(65521)=65521 "
            + "feed(0,0,0,0,0)=-1 end(65520)=65520 feed(0,0,0,0,0)=65540 end(0)=0 feed(0,0,0,0,0)=20");
    }

    private static void emptied() {
        Sentence.of("Each method that reads the tray empties it, whatever it returns, unless it returns -13.");
        Sentence.run("`class A` declare()=-1 end(1)=-1 end(0)=0 `class A{B b;}` declare()=-2 end(1)=-1 `class A{}` kind()=-13 end(9)=9 named(10)=-13 end(9)=9 "
            + "text()=-13 end(9)=9 call(1,1)=-13 end(9)=9 ask(1)=-13 end(9)=9 read()=-13 end(9)=9 declare()=1"
            + " end(1)=-1 `class B{}` declare()=-13 end(9)=9 call(1,1)=-13 end(9)=9 ask(1)=-13 end(9)=9 read()=-13 end(9)=9 view(0)=true read()=-13 end(9)=9");
        Sentence.run(OPEN + "`I`kind()=4 end(1)=-1 `X`kind()=-14 end(1)=-1 `[[[[[[[[[I`kind()=-12 end(1)=-1 `n`named(12)=0 end(1)=-1 `x`named(12)=-14 end(1)=-1 "
            + "`n`named(99)=-14 end(1)=-1 `hey`text()=7 end(1)=-1 `new`text()=9 end(1)=-1 |07|text()=-1"
            + " end(1)=-1 `f`call(3,9)=0 end(1)=-1 `f`call(3,-1)=-1 end(1)=-1 `f`call(0,9)=-3 end(1)=-1 `f`call(99,9)=-14 end(1)=-1 `bad`call(3,9)=-8 end(1)=-1 "
            + "`f`call(3,0)=-10 end(1)=-1 `from c in C give c`ask(9)=1 end(1)=-1"
            + " `from c in C give c`ask(-1)=-1 end(1)=-1 `from c in C give`ask(9)=-21 end(1)=-1 `from c in C give x`ask(9)=-22 end(1)=-1 `from c in C give "
            + "1/0`ask(9)=-8 end(1)=-1 `xx`read()=-20 end(1)=-1");
        Sentence.run(OPEN + Sentence.graph("4f47 01 03'LE;' 01 00 00") + " read()=1 end(1)=-1 crash(0)=true `x` kind()=-13 named(10)=-13 text()=-13 call(1,1)=-13 "
            + "ask(9)=-13 read()=-13 declare()=-13 end(1)=1");
    }

    private static void argumentsUsed() {
        Sentence.of("The arguments (method argument) are used up by record and call in the same way.");
        String two = "argument(4,1)=1 argument(4,2)=2 ";
        Sentence.run(two + "record(10)=-13 call(1,1)=-13 argument(4,3)=3 " + CLASSES + "record(14)=-13 `f`call(1,1)=-13 argument(4,4)=4 view(0)=true record(14)=-13 "
            + "argument(4,5)=5 `f`call(1,9)=-1 argument(4,1)=1 view(0)=true `f`call(99,9)=-14 argument(4,1)=1");
        String[] using = {"record(14)=-1", "record(99)=-14", "record(12)=-1", "`f`call(3,9)=-1", "`f`call(0,9)=-3", "`f`call(99,9)=-14", "`f`call(3,-1)=-1", "`x`call(3,9)=-1"};
        for (String s : using) {
            Sentence.run(OPEN + two + s + " argument(4,1)=1");
        }
        // Other calls leave them alone.
        Sentence.run(OPEN + two + "make(12)=9 array(4,1)=10 `a`text()=11 `from c in C give c`ask(9)=2 `I`kind()=4 `n`named(12)=0 keep(1)=1 begin()=2 drop(2)=true "
            + "argument(4,3)=3 crash(9999)=true argument(4,1)=1 reopen()=1 argument(4,2)=2");
    }

    /** The call and its code in each state: nothing declared, no view, a version as the view, a transaction as the view, closed. */
    private static void inStates(String call, String undeclared, String without, String version, String transaction, String closed) {
        Sentence.run("`x` " + call + "=" + undeclared);
        Sentence.run(KEPT + "`x` " + call + "=" + without);
        Sentence.run(KEPT + "view(1)=true `x` " + call + "=" + version);
        Sentence.run(KEPT + "begin()=2 `x` " + call + "=" + transaction);
        Sentence.run(KEPT + "begin()=2 crash(9999)=true `x` " + call + "=" + closed);
    }

    private static void needsView(String call, String answer) {
        inStates(call, "-13", "-13", answer, answer, "-13");
    }

    private static void needsTransaction(String call, String answer) {
        inStates(call, "-13", "-13", "-13", answer, "-13");
    }

    private static void states() {
        Sentence.of("A view is needed by kindOf, size, letter, get, put, element, set, copy, cloned, root, rootAt, call, ask, range, write, read, same, patch and "
            + "apply; not by text, constant, argument, alive (false without a view), code and answered.");
        needsView("kindOf(3)", "12");
        needsView("size(4)", "2");
        needsView("letter(7,0)", "104");
        needsView("rootAt(0)", "3");
        needsView("call(3,9)", "-1");
        needsView("ask(9)", "-21");
        needsView("range(12,0,0,0)", "1");
        needsView("write(3)", "26");
        needsView("same(3,3)", "1");
        needsView("patch(3,3)", "0");
        for (String call : new String[] {"kindOf(99)", "size(99)", "letter(99,0)", "call(99,9)", "write(99)", "same(99,0)", "patch(0,99)"}) {
            needsView(call, "-14");
        }
        inStates("get(3,0)", "0 code()=13", "0 code()=13", "0 code()=0", "0 code()=0", "0 code()=13");
        inStates("element(4,0)", "0 code()=13", "0 code()=13", "0 code()=0", "0 code()=0", "0 code()=13");
        inStates("text()", "-13", "9", "9", "9", "-13");
        inStates("constant(13,1)", "-13", "2", "2", "2", "-13");
        inStates("argument(4,1)", "1", "1", "1", "1", "1");
        inStates("alive(3)", "false", "false", "true", "true", "false");
        inStates("code()", "0", "0", "0", "0", "0");
        inStates("answered()", "0", "0", "0", "0", "0");
        Sentence.of("make, record, array, put, set, copy, cloned, root, read and apply need a view that is an open transaction.");
        needsTransaction("make(12)", "9");
        needsTransaction("make(99)", "-14");
        needsTransaction("record(14)", "-1");
        needsTransaction("array(4,1)", "9");
        needsTransaction("put(3,0,4,1)", "0");
        needsTransaction("put(99,99,99,99)", "-14");
        needsTransaction("set(4,0,4,1)", "0");
        needsTransaction("copy(4,0,4,0,1)", "0");
        needsTransaction("copy(99,0,4,0,1)", "-14");
        needsTransaction("cloned(4)", "9");
        needsTransaction("root(0,0)", "0");
        needsTransaction("root(99,99)", "-14");
        needsTransaction("read()", "-20");
        needsTransaction("apply()", "0");
        Sentence.of("13 the database is closed, or no classes are declared, or there is no view, or no transaction for a change;");
        for (String call : new String[] {"kind()=-13 end(1)", "fits(4,5)", "fields(12)", "field(12,0)", "named(12)", "begin()", "keep(1)", "sweep(1)"}) {
            String[] parts = call.split(" ");
            String first = parts[0].endsWith("=-13") ? "-13 " + parts[1] + "=1" : "-13";
            String name = parts[0].replace("=-13", "");
            Sentence.run("`x` " + name + "=" + first);
            Sentence.run(KEPT + "crash(9999)=true `x` " + name + "=" + first);
        }
        Sentence.run("use(1)=false view(0)=false drop(1)=false newest()=-1 kinds()=0 crash(0)=false reopen()=-13 poke(0,0)=false logged()=0 logAt(0)=-1 clash()=-1 "
            + "place()=-1 alive(1)=false found(0)=0 at(0)=-1 row(0,0)=0 answer(0,0)=0 answerKind(0)=-1"
            + " steps()=0 code()=0 answered()=0 " + KEPT + "begin()=2 crash(9999)=true use(2)=false view(1)=false drop(2)=false newest()=-1 kinds()=18 crash(0)=false");
    }

    private static void order() {
        Sentence.of("If several codes apply, the first one in this order is returned, unless something else is said:");
        Sentence.run(OPEN + "kindOf(0)=-3 kindOf(9)=-14 size(9)=-14 size(0)=-3 size(3)=-1 size(1)=-1 size(6)=-1 letter(9,9)=-14 letter(0,9)=-3 letter(4,9)=-1 "
            + "letter(7,3)=-2 letter(7,-1)=-2");
        Sentence.run(OPEN + "array(99,-1)=-14 array(4,-1)=-4 array(99,500)=-14 array(4,-2147483648)=-4 array(4,401)=-12 make(99)=-14 make(11)=-1 constant(99,9)=-14 "
            + "constant(12,9)=-1 constant(13,9)=-2");
        Sentence.run(OPEN + "copy(9,0,0,0,0)=-14 copy(0,0,9,0,0)=-14 copy(0,0,3,9,9)=-3 copy(3,9,0,9,9)=-3 copy(3,9,4,9,9)=-1 copy(4,9,3,9,9)=-1 copy(4,9,5,9,9)=-1 "
            + "copy(5,9,4,9,9)=-1 copy(4,9,4,0,0)=-2 cloned(9)=-14 cloned(0)=-3 cloned(3)=-1 cloned(7)=-1 cloned(1)=-1");
        Sentence.run(OPEN + "put(9,9,9,9)=-14 put(0,9,99,9)=-14 put(0,9,8,99)=-14 put(0,9,9,9)=-3 put(4,9,9,9)=-1 put(3,9,9,9)=-14 put(3,0,9,9)=-1 put(6,9,4,1)=-14 "
            + "put(6,0,4,1)=-1 put(6,0,8,0)=-5 put(6,0,8,4)=-5 put(6,0,8,5)=-1 put(6,0,8,99)=-14");
        Sentence.run(OPEN + "set(9,9,9,9)=-14 set(0,9,99,9)=-14 set(0,9,8,99)=-14 set(0,9,9,9)=-3 set(3,9,9,9)=-1 set(4,9,9,9)=-1 set(4,9,5,9)=-1 set(4,9,4,9)=-2 "
            + "set(4,-1,8,0)=-1 set(5,9,8,3)=-2 set(5,9,8,4)=-1 set(5,9,8,99)=-14");
        Sentence.run(OPEN + "root(99,9)=-14 root(99,3)=-2 root(-1,0)=-2 rootAt(99)=-2 same(0,9)=-14 same(9,0)=-14 same(0,0)=-3 patch(0,9)=-14 patch(9,0)=-14 "
            + "patch(0,4)=-3 patch(3,4)=-1 write(9)=-14 write(0)=-3");
        Sentence.run(OPEN + "keep(9)=-14 keep(0)=-14 keep(-1)=-14 range(99,9,0,0)=-14 range(12,9,0,2147483648)=-14 range(12,1,0,0)=-1 range(12,0,2147483648,0)=-1 "
            + "sweep(9)=-14 fits(99,4)=-14 fits(4,99)=-14 fits(-1,4)=-14 field(99,0)=-14 field(12,3)=-14");
        Sentence.run(OPEN + "argument(8,99)=1 record(12)=-14 argument(8,99)=1 record(99)=-14 argument(8,99)=1 `x`call(0,-1)=-14 argument(8,9)=1 `f`call(3,-1)=-14 "
            + "`x`call(0,-1)=-3 `x`call(9,-1)=-14 `f`call(4,-1)=-1");
        Sentence.run(OPEN + "get(9,9)=0 code()=14 get(0,9)=0 code()=3 get(4,9)=0 code()=1 get(3,9)=0 code()=14 element(9,9)=0 code()=14 element(0,9)=0 code()=3 "
            + "element(3,9)=0 code()=1 element(4,9)=0 code()=2");
        Sentence.of("12 a limit is exceeded.");
        String full = OPEN + "array(5,400) ".repeat(49) + "array(5,389)=58 ";
        Sentence.run(full + "make(12)=-12 make(11)=-1 make(99)=-14 array(4,1)=-12 array(4,-1)=-4 array(99,1)=-14 cloned(4)=-12 cloned(3)=-1 cloned(0)=-3 "
            + "argument(8,0)=1 record(14)=-1 argument(8,0)=1 argument(8,0)=2 argument(8,0)=3 record(14)=-12"
            + " argument(4,0)=1 argument(8,0)=2 argument(8,0)=3 record(14)=-1 " + Sentence.graph("4f47 01 02'[I' 01 00 "
            + "01 00000001") + " read()=-12 place()=-1 " + Sentence.graph("4f47 01 02'[I' 01 00 01 000000") + " read()=-20 place()=9");
    }

    private static void declaring() {
        Sentence.of("Returns the number of classes; -1 or -2 for error 1 or 2 (section 2; nothing is declared; a text with more than 20000 bytes is error 1 at position "
            + "20000); -12 if there is no room for the constants and texts;"
            + " -13 if something is declared already, also a text without classes (then the tray does not change).");
        Sentence.run("`class A{}class A{}` declare()=-2 kinds()=0 newest()=-1 begin()=-13 `class A` declare()=-1 kinds()=0 newest()=-1 `class A{}enum E{K}` declare()=2 "
            + "kinds()=12 newest()=0 `x` declare()=-13 end(1)=1 kinds()=12");
        Sentence.run("`` declare()=0 kinds()=10 newest()=0 `class A{}` declare()=-13 end(9)=9 begin()=1 array(4,2)=1 end(1)=1 text()=2 keep(1)=1 crash(0)=true "
            + "declare()=-13 reopen()=0 declare()=-13");
        Sentence.run("` ` declare()=0 declare()=-13 kinds()=10");
        // What a refused text has named is not known later.
        Sentence.run("`class A{int[] x;}enum E{K}class B{Z z;}` declare()=-2 `class C{Object f(Object A){return (A);}}` declare()=1 kinds()=11 `LA;`kind()=-14 "
            + "constant(10,0)=-1 `LC;`kind()=10 begin()=1 make(10)=1");
        Sentence.run("`class A{Text f(){return \"a\";}}enum E{K}class B{Z z;}` declare()=-2 `class C{}` declare()=1 view(0)=true alive(1)=false `a`text()=1");
    }

    private static void places() {
        Sentence.of("Returns the position of the error 1 or 2 of the latest call of declare or ask, or of the error of read, if this call returned such an error; "
            + "otherwise -1.");
        Sentence.run("place()=-1 `class` declare()=-1 place()=5 place()=5 kind()=-13 begin()=-13 place()=5 `x` read()=-13 place()=-1 `class` declare()=-1 place()=5 "
            + "ask(9)=-13 place()=-1 `class A{B b;}` declare()=-2 place()=8 `class A{}` declare()=1 place()=-1"
            + " begin()=1 `from a`ask(9)=-21 place()=6 `f`call(9,9)=-14 `x`named(10)=-14 place()=6 `from a`ask(-1)=-1 place()=-1 `from a in A give b`ask(9)=-22 "
            + "place()=17 `x`declare()=-13 place()=-1 `from a in A give b`ask(9)=-22 place()=17 `from a in A give a`ask(9)=0"
            + " place()=-1 `from a in A give b`ask(9)=-22 place()=17 `from a in A give 1`ask(9)=0 place()=-1 `123456789`read()=-20 place()=5 `from a in A give "
            + "1`ask(9)=0 place()=-1 `1234`read()=-20 place()=0 make(10)=1 place()=0 `from a in A give 1/0`ask(9)=-8 place()=-1"
            + " `1`read()=-20 place()=0 " + Sentence.graph("4f47 01 03'LA;' 01 00") + " read()=2 place()=-1 `1`read()=-20 place()=0 view(0)=true `1`read()=-13 "
            + "place()=-1 ask(9)=-21 place()=0 keep(1)=1 ask(9)=-21 place()=0 begin()=2 keep(2)=2 ask(9)=-13 place()=-1");
    }

    private static void kinds() {
        Sentence.of("Returns the type whose descriptor (section 7) is the whole tray; -13; -14 if it is no descriptor of a type; -12 if it has too many [ or there "
            + "would be too many types.");
        ObjectHouse x = Sentence.run(CLASSES + "kinds()=18 `I`kind()=4 `[I`kind()=15 `[LC;`kind()=16 `[LP;`kind()=17 `[[I`kind()=18 kinds()=19 `[[I`kind()=18 "
            + "kinds()=19 ``kind()=-14 `[`kind()=-14 `[[[[[[[[[`kind()=-14 `[[[[[[[[[V`kind()=-14 `[[[[[[[[[I`kind()=-12"
            + " `[[[[[[[[[[[[[[[[[[[[I`kind()=-12 `I `kind()=-14 ` I`kind()=-14 `[[[[[[[[I`kind()=24 kinds()=25 |49 00|kind()=-14 |00|kind()=-14 |c9|kind()=-14 "
            + "|4c43bb|kind()=-14 `LC;`kind()=12 `LObject;`kind()=8 `LText;`kind()=9 `Lint;`kind()=-14 kinds()=25");
        Sentence.of("Returns the number of types; 0 if nothing is declared (a text without classes that is declared is something).");
        Sentence.run("kinds()=0 `class` declare()=-1 kinds()=0 `` declare()=0 kinds()=10 `[[D`kind()=11 kinds()=12 crash(0)=true kinds()=10 reopen()=0 kinds()=10");
    }

    private static void fieldsOfTypes() {
        Sentence.of("Returns the number of fields of objects of this class or record, 0 for other types; -13; -14.");
        ObjectHouse x = Sentence.run(CLASSES + "fields(10)=0 fields(11)=1 fields(12)=3 fields(13)=0 fields(14)=3 fields(15)=0 fields(0)=0 fields(8)=0 fields(9)=0 "
            + "fields(17)=0 fields(18)=-14 fields(-1)=-14 fields(2147483647)=-14 fields(-2147483648)=-14");
        Sentence.of("Returns the type of the field; -13; -14, also if there is no such field.");
        Sentence.run(x, "field(12,0)=4 field(12,1)=12 field(12,2)=7 field(12,3)=-14 field(12,-1)=-14 field(12,2147483647)=-14 field(11,0)=4 field(11,1)=-14 "
            + "field(10,0)=-14 field(13,0)=-14 field(15,0)=-14 field(4,0)=-14 field(8,0)=-14 field(18,0)=-14 field(-1,0)=-14"
            + " field(14,0)=15 field(14,1)=16 field(14,2)=17 field(-2147483648,-2147483648)=-14");
        Sentence.of("Returns the number of the field of type k whose name is the whole tray; -13; -14, also if there is no such field.");
        Sentence.run(x, "`n`named(12)=0 `n`named(11)=0 `c`named(12)=1 `d`named(12)=2 `c`named(11)=-14 `c`named(14)=1 `f`named(12)=-14 `C`named(12)=-14 ``named(12)=-14 "
            + "`n `named(12)=-14 `nn`named(12)=-14 `K`named(13)=-14 `int`named(12)=-14 `unheard`named(12)=-14"
            + " `n`named(18)=-14 `n`named(-1)=-14 `n`named(4)=-14 `length`named(15)=-14 `class`named(12)=-14");
    }

    private static void fitting() {
        Sentence.of("Returns 1 if k fits j, else 0; -13; -14.");
        Sentence.run("fits(4,4)=-13 fits(99,99)=-13 " + CLASSES + "fits(12,11)=1 fits(12,10)=1 fits(11,12)=0 fits(4,5)=1 fits(5,4)=0 fits(17,17)=1 fits(16,17)=1 "
            + "fits(17,16)=0 fits(18,8)=-14 fits(8,18)=-14 fits(-1,8)=-14 fits(8,-1)=-14 fits(2147483647,0)=-14"
            + " fits(0,-2147483648)=-14 crash(0)=true fits(4,4)=-13");
    }

    private static void transactions() {
        Sentence.of("Returns the number of the transaction: 1 for the first one, and so on; -13; -12 if 8 are open.");
        Sentence.run(CLASSES + "begin()=1 begin()=2 drop(1)=true begin()=3 keep(2)=1 keep(3)=2 begin()=4 begin()=5 begin()=6 begin()=7 begin()=8 begin()=9 begin()=10 "
            + "begin()=11 begin()=-12 use(12)=false drop(4)=true begin()=12 begin()=-12 use(12)=true");
        Sentence.of("Returns true; false if there is no such open transaction, or the database is closed.");
        Sentence.run(CLASSES + "use(0)=false use(1)=false drop(0)=false drop(1)=false begin()=1 use(1)=true use(2)=false use(-1)=false use(0)=false drop(2)=false "
            + "drop(-1)=false drop(0)=false use(2147483647)=false use(-2147483648)=false drop(-2147483648)=false keep(1)=1"
            + " use(1)=false drop(1)=false begin()=2 drop(2)=true use(2)=false drop(2)=false begin()=3 crash(0)=true use(3)=false drop(3)=false reopen()=0 use(3)=false "
            + "drop(3)=false keep(3)=-14");
        Sentence.of("Returns true; false if it does not exist, or the database is closed.");
        Sentence.run(CLASSES + "view(0)=true view(1)=false view(-1)=false view(2147483647)=false view(-2147483648)=false begin()=1 keep(1)=1 view(1)=true view(2)=false "
            + "crash(99)=true view(1)=false reopen()=1 view(0)=false view(1)=true");
        Sentence.of("Returns the new version; -13; -14; -1 if it conflicts (then it stays open, and clash tells the conflict); -12 if there is no version left, or no "
            + "room in the log.");
        Sentence.run(KEPT + "begin()=2 begin()=3 put(3,0,4,1)=0 use(2)=true put(3,0,4,2)=0 keep(3)=2 keep(2)=-1 clash()=3 get(3,0)=2 keep(2)=-1 use(2)=true "
            + "put(3,0,4,3)=0 keep(2)=-1 drop(2)=true keep(2)=-14 keep(3)=-14 keep(4)=-14 keep(0)=-14 clash()=3 newest()=2");
        Sentence.of("Returns the conflict of the latest call of keep that returned -1 or a version; -1 if it returned a version, or there was none.");
        Sentence.run(KEPT + "clash()=-1 begin()=2 begin()=3 root(0,0)=0 keep(3)=2 use(2)=true rootAt(0)=3 clash()=-1 keep(2)=-1 clash()=0 keep(9)=-14 clash()=0 "
            + "drop(2)=true clash()=0 begin()=4 clash()=0 keep(4)=3 clash()=-1 keep(4)=-14 clash()=-1");
        Sentence.of("Discards a transaction and the objects that it created.");
        Sentence.run(KEPT + "begin()=2 make(12)=9 put(3,0,4,9)=0 root(0,9)=0 begin()=3 drop(2)=true alive(9)=false get(3,0)=0 rootAt(0)=3 make(12)=10 keep(3)=2 "
            + "view(2)=true alive(9)=false alive(10)=true get(3,0)=0 newest()=2");
        Sentence.of("Returns the newest version; -1 if nothing is declared or the database is closed.");
        Sentence.run("newest()=-1 " + CLASSES + "newest()=0 begin()=1 newest()=0 keep(1)=1 newest()=1 view(0)=true newest()=1 crash(99)=true newest()=-1 reopen()=1 "
            + "newest()=1");
    }

    private static void making() {
        Sentence.of("Creates a database without classes; it is open, and tray and arguments are empty.");
        Sentence.run("end(1)=-1 kinds()=0 newest()=-1 reopen()=-13 argument(4,1)=1 end(0)=0 logged()=0 declare()=0");
        Sentence.of("Creates an object of a class that is not abstract.");
        Sentence.of("Returns the number of the object; -13; -14; -1 if k is another type (Object, too); -12.");
        Sentence.run(CLASSES + "begin()=1 make(12)=3 make(10)=-1 make(11)=-1 make(13)=-1 make(14)=-1 make(15)=-1 make(8)=-1 make(9)=-1 make(0)=-1 make(7)=-1 "
            + "make(18)=-14 make(-1)=-14 make(2147483647)=-14 make(-2147483648)=-14 make(12)=4 kindOf(4)=12 get(4,0)=0 get(4,1)=0 get(4,2)=0");
    }

    private static void arguments() {
        Sentence.of("`bits`: the bits of the value; for a reference 0 to 2147483647");
        Sentence.run("argument(8,0)=1 argument(8,2147483647)=2 argument(8,2147483648)=-1 argument(8,-1)=-1 argument(8,9223372036854775807)=-1 "
            + "argument(8,-9223372036854775808)=-1 argument(8,4294967296)=-1 argument(8,1)=3");
        Sentence.of("Returns the number of arguments; -1 if kind is not 0 to 8 or the type does not have these bits; -12 if there are 40 arguments.");
        StringBuilder s = new StringBuilder();
        for (int i = 1; i <= 40; i++) {
            s.append("argument(").append(i % 9).append(",0)=").append(i).append(' ');
        }
        Sentence.run("argument(9,0)=-1 argument(-1,0)=-1 argument(2147483647,0)=-1 argument(-2147483648,0)=-1 "
            + "argument(12,0)=-1 " + s + "argument(4,0)=-12 argument(9,0)=-1 argument(0,2)=-1 argument(8,0)=-12 argument(4,2147483648)=-1");
        Sentence.run("`record F(int a" + Sentence.many(",int b#", 39) + "){}` declare()=1 begin()=1 " + "argument(4,7) ".repeat(40) + "argument(4,1)=-12 record(10)=1 "
            + "get(1,39)=7 get(1,0)=7 argument(4,1)=1");
    }

    private static void recordsAndArrays() {
        Sentence.of("Returns the number of the object; -13; -14 (also if an argument is an object that is not alive); -1 if k is another type, the number of arguments "
            + "is wrong, or an argument does not fit; -12."
            + " The arguments are removed, unless the result is -13.");
        String three = "argument(8,4)=1 argument(8,5)=2 argument(8,8)=3 ";
        Sentence.run(OPEN + three + "record(14)=9 get(9,0)=4 get(9,1)=5 get(9,2)=8 argument(8,4)=1 argument(8,5)=2 record(14)=-1 "
            + "record(14)=-1 " + three + "argument(8,0)=4 record(14)=-1 " + three + "record(12)=-1 " + three + "record(18)=-14 " + three + "record(-1)=-14 record(4)=-1"
            + " argument(8,4)=1 argument(8,5)=2 argument(8,99)=3 record(14)=-14 argument(8,99)=1 record(12)=-14 argument(8,2147483647)=1 record(14)=-14 argument(8,5)=1 "
            + "argument(8,5)=2 argument(8,8)=3 record(14)=-1 argument(8,0)=1 argument(8,8)=2 argument(8,0)=3 record(14)=-1"
            + " argument(8,0)=1 argument(8,5)=2 argument(8,5)=3 record(14)=10 get(10,2)=5 argument(4,0)=1 argument(8,5)=2 argument(8,5)=3 record(14)=-1 argument(8,0)=1 "
            + "argument(8,5)=2 argument(5,0)=3 record(14)=-1 record(14)=-1");
        // As many arguments as a class has fields do not make it a record.
        Sentence.run("`class C{int a;}record R(int a){}record N(){}abstract class A{int a;}interface I{}enum E{K}` declare()=6 begin()=1 argument(4,1)=1 record(10)=-1 "
            + "argument(4,1)=1 record(13)=-1 record(14)=-1 record(15)=-1 record(8)=-1 record(9)=-1 record(0)=-1 record(12)=2 argument(4,1)=1"
            + " record(11)=3 argument(4,1)=1 record(12)=-1 record(11)=-1");
        Sentence.of("the arguments, widened, are the values of its fields.");
        Sentence.run("`record R(double a,float b,long c,int d,short e){}` declare()=1 begin()=1 argument(3,65535)=1 argument(5,9223372036854775807)=2 "
            + "argument(1,-128)=3 argument(2,-5)=4 argument(1,-1)=5 record(10)=1 get(1,0)=65535.0d get(1,1)=9.223372e18f get(1,2)=-128 get(1,3)=-5"
            + " get(1,4)=-1 argument(6,0.1f)=1 argument(3,1)=2 argument(3,65535)=3 argument(3,65535)=4 argument(3,1)=5 record(10)=-1 argument(6,0.1f)=1 argument(3,1)=2 "
            + "argument(3,65535)=3 argument(3,65535)=4 argument(2,1)=5 record(10)=2 get(2,0)=0.10000000149011612d get(2,3)=65535");
        Sentence.of("Returns the number of the object; -13; -14; -4; -12 (also if n is greater than 400, or the array type would have too many [ or be one type "
            + "too many).");
        Sentence.run(CLASSES + "begin()=1 `[[[[[[[[I`kind()=24 kinds()=25 array(24,0)=-12 array(23,0)=3 kindOf(3)=24 array(23,400)=4 array(23,401)=-12 array(4,400)=5 "
            + "array(4,401)=-12 array(4,2147483647)=-12 array(4,-1)=-4 array(24,-1)=-4 array(25,0)=-14 array(-1,0)=-14"
            + " array(5,401)=-12 kinds()=25 array(5,0)=6 kindOf(6)=25 kinds()=26 array(25,0)=7 kindOf(7)=26 array(0,0)=8 array(13,0)=9 array(14,0)=10 array(10,0)=11 "
            + "array(11,1)=12 kindOf(12)=17");
    }

    private static void textsAndConstants() {
        Sentence.of("Finds or creates the text whose bytes are the whole tray (0 to 1000 bytes, each from 32 to 126).");
        for (int b = 0; b < 256; b++) {
            String byteText = String.format("|61%02x62|", b);
            Sentence.run(CLASSES + byteText + "text()=" + (b < 32 || b > 126 ? "-1 end(1)=-1" : "3 " + byteText + "text()=3 view(0)=true size(3)=3 letter(3,1)=" + b));
        }
        Sentence.run(CLASSES + "``text()=3 ``text()=3 ` `text()=4 `" + "x".repeat(1000) + "`text()=5 `" + "x".repeat(1001) + "`text()=-1 `" + "x".repeat(999)
            + "`text()=6 `" + "x".repeat(999) + "y`text()=7 `" + "x".repeat(1000) + "`text()=5 view(0)=true size(3)=0 size(5)=1000 size(6)=999"
            + " letter(5,999)='x' letter(5,1000)=-2 letter(3,0)=-2 letter(7,999)='y' `" + "x".repeat(1020) + "`text()=-1");
        Sentence.of("Returns the number of the object; -13 if the database is closed or no classes are declared; -1 if the tray is no such text; -12.");
        Sentence.run("`a`text()=-13 " + CLASSES + "`a`text()=3 |ff|text()=-1 crash(0)=true `a`text()=-13 end(1)=1 reopen()=0 text()=3 begin()=1 `b`text()=4");
        // The names of the classes and the keywords are texts like others.
        Sentence.run("`class C{}` declare()=1 `abstract`text()=1 `abstract`text()=1 `class`text()=2 `abstract`text()=1 view(0)=true size(1)=8");
        Sentence.run(CLASSES + "`C`text()=3 `class`text()=4 `n`text()=5 `K`text()=6 `C`text()=3 begin()=1 size(4)=5");
        Sentence.of("Returns the number of the constant; -13 if the database is closed or no classes are declared; -14; -1 if k is another type; -2 if there is no such "
            + "position.");
        Sentence.run(CLASSES + "constant(13,0)=1 constant(13,1)=2 constant(13,2)=-2 constant(13,-1)=-2 constant(13,2147483647)=-2 constant(13,-2147483648)=-2 "
            + "constant(12,0)=-1 constant(14,0)=-1 constant(10,9)=-1 constant(8,0)=-1 constant(9,0)=-1 constant(0,0)=-1 constant(15,0)=-1"
            + " constant(18,0)=-14 constant(-1,0)=-14");
    }

    private static void reading() {
        Sentence.of("Returns its type; -13; -14; -3.");
        Sentence.run(OPEN + "kindOf(1)=13 kindOf(3)=12 kindOf(4)=15 kindOf(5)=16 kindOf(6)=14 kindOf(7)=9 kindOf(8)=17 kindOf(0)=-3 kindOf(9)=-14 kindOf(-1)=-14 "
            + "kindOf(4001)=-14 kindOf(2147483647)=-14 kindOf(-2147483648)=-14");
        Sentence.of("Returns the number of its elements or bytes; -13; -14; -3; -1.");
        Sentence.run(OPEN + "size(4)=2 size(5)=2 size(8)=1 size(7)=3 size(3)=-1 size(6)=-1 size(1)=-1 size(0)=-3 size(9)=-14 size(-1)=-14 array(4,0)=9 size(9)=0 "
            + "array(4,400)=10 size(10)=400 ``text()=11 size(11)=0");
        Sentence.of("Returns the byte; -13; -14; -3; -1; -2.");
        Sentence.run(OPEN + "letter(7,0)='h' letter(7,1)='e' letter(7,2)='y' letter(7,3)=-2 letter(7,-1)=-2 letter(7,2147483647)=-2 letter(7,-2147483648)=-2 "
            + "letter(4,0)=-1 letter(3,0)=-1 letter(1,0)=-1 letter(6,0)=-1 letter(0,0)=-3 letter(9,0)=-14");
        Sentence.of("Returns the bits of its value; 0 if the code is not 0.");
        Sentence.run(OPEN + "put(3,0,4,-1)=0 put(3,1,8,3)=0 put(3,2,7,-1.5d)=0 get(3,0)=-1 get(3,1)=3 get(3,2)=-1.5d get(3,3)=0 get(0,0)=0 get(9,0)=0 get(4,0)=0 "
            + "drop(1)=true get(3,0)=0");
        Sentence.of("Returns the bits of the element; 0 if the code is not 0.");
        Sentence.run(OPEN + "set(4,1,4,-1)=0 set(5,0,8,3)=0 element(4,1)=-1 element(5,0)=3 element(4,2)=0 element(4,-1)=0 element(0,0)=0 element(9,0)=0 element(3,0)=0 "
            + "drop(1)=true element(4,1)=0");
        Sentence.of("Reads a field. code then tells the code: 0, 13, 14 (also if there is no such field, after code 1), 3, or 1 if t is no object of a class or record.");
        Sentence.run(OPEN + "put(3,0,4,7)=0 get(3,0)=7 code()=0 get(3,1)=0 code()=0 get(3,3)=0 code()=14 get(3,-1)=0 code()=14 get(3,2147483647)=0 code()=14 "
            + "get(3,-2147483648)=0 code()=14 get(6,2)=0 code()=0 get(6,3)=0 code()=14 get(1,0)=0 code()=1 get(4,0)=0 code()=1 get(7,0)=0 code()=1"
            + " get(4,9)=0 code()=1 get(0,0)=0 code()=3 get(9,0)=0 code()=14 get(-1,0)=0 code()=14 get(3,0)=7 code()=0");
        Sentence.of("Reads an element, like get; code is 0, 13, 14, 3, 1 if t is no array, or 2.");
        Sentence.run(OPEN + "set(4,1,4,7)=0 element(4,1)=7 code()=0 element(4,0)=0 code()=0 element(4,2)=0 code()=2 element(4,-1)=0 code()=2 element(4,2147483647)=0 "
            + "code()=2 element(4,-2147483648)=0 code()=2 element(3,0)=0 code()=1 element(7,0)=0 code()=1 element(1,0)=0 code()=1"
            + " element(6,0)=0 code()=1 element(0,0)=0 code()=3 element(9,0)=0 code()=14 element(4,1)=7 code()=0");
        Sentence.of("Returns the code of the latest call of get or element; 0 if there was none.");
        Sentence.run("code()=0 get(1,1)=0 code()=13 element(1,1)=0 code()=13 code()=13 " + OPEN + "code()=13 element(4,9)=0 code()=2 kindOf(0)=-3 set(4,9,4,0)=-2 "
            + "code()=2 get(3,0)=0 code()=0 get(0,0)=0 code()=3 drop(1)=true code()=3 crash(0)=true code()=0 get(1,0)=0 code()=13");
    }

    private static void putting() {
        Sentence.of("Returns 0; -13; -14 (t, or a value of kind 8 that is not 0, is not the number of an object that is alive, or kind is no type); -3; -1 if t is no "
            + "object of a class or record; -14 if there is no such field;"
            + " -1 if kind is a type above 8, or the value does not fit, or the type does not have these bits; -5 if t is an object of a record; -12.");
        Sentence.run(OPEN + "put(9,0,4,1)=-14 put(-1,0,4,1)=-14 put(3,1,8,9)=-14 put(3,1,8,-1)=-14 put(3,1,8,4294967299)=-14 put(3,1,8,4000)=-14 put(3,1,8,4001)=-14 "
            + "put(3,1,8,9223372036854775807)=-14 put(3,1,8,-9223372036854775808)=-14 put(3,0,18,1)=-14 put(3,0,-1,1)=-14"
            + " put(3,0,2147483647,1)=-14 put(0,0,4,1)=-3 put(0,0,8,0)=-3 put(4,0,4,1)=-1 put(7,0,4,1)=-1 put(1,0,4,1)=-1 put(3,3,4,1)=-14 put(3,-1,4,1)=-14 "
            + "put(3,3,17,1)=-14 put(3,3,4,2147483648)=-14 put(3,0,9,0)=-1 put(3,1,12,3)=-1 put(3,1,17,0)=-1 put(3,0,8,0)=-1 put(3,0,8,3)=-1"
            + " put(3,0,5,1)=-1 put(3,0,6,0)=-1 put(3,0,0,1)=-1 put(3,0,4,2147483648)=-1 put(3,0,4,-2147483649)=-1 put(3,0,1,128)=-1 put(3,1,4,0)=-1 put(3,1,0,0)=-1 "
            + "put(3,1,8,4)=-1 put(3,1,8,6)=-1 put(3,1,8,1)=-1 put(3,2,8,0)=-1 put(3,2,7,0x7ff8000000000000)=-1"
            + " get(3,0)=0 get(3,1)=0 get(3,2)=0 put(3,0,4,-2147483648)=0 put(3,0,1,-128)=0 get(3,0)=-128 put(3,1,8,3)=0 put(3,1,8,0)=0 put(3,2,4,-1)=0 get(3,2)=-1.0d "
            + "put(6,0,8,0)=-5 put(6,0,4,0)=-1 put(6,0,17,0)=-1 put(6,0,18,0)=-14 put(6,3,8,0)=-14 get(6,0)=0");
        Sentence.of("Returns 0; -13; -14 (as for put); -3; -1 (t is no array, kind is a type above 8, the value does not fit, or the type does not have these "
            + "bits); -2; -12.");
        Sentence.run(OPEN + "set(9,0,4,1)=-14 set(5,0,8,9)=-14 set(5,0,8,-1)=-14 set(5,0,8,4294967299)=-14 set(4,0,18,1)=-14 set(4,0,-1,1)=-14 set(0,0,4,1)=-3 "
            + "set(3,0,4,1)=-1 set(6,0,8,0)=-1 set(7,0,3,97)=-1 set(1,0,4,1)=-1 set(4,0,9,1)=-1 set(4,0,15,1)=-1 set(4,0,5,1)=-1 set(4,0,8,0)=-1"
            + " set(4,0,4,2147483648)=-1 set(4,0,0,1)=-1 set(5,0,4,0)=-1 set(5,0,8,4)=-1 set(5,0,8,1)=-1 set(4,2,4,1)=-2 set(4,-1,4,1)=-2 set(4,2147483647,4,1)=-2 "
            + "set(4,-2147483648,4,1)=-2 set(5,2,8,0)=-2 set(5,2,8,4)=-1 element(4,0)=0 element(5,0)=0"
            + " set(4,0,1,-1)=0 set(4,1,3,65535)=0 element(4,0)=-1 element(4,1)=65535 set(5,1,8,3)=0 element(5,1)=3 set(8,0,8,3)=0 set(5,1,8,0)=0 element(5,1)=0");
    }

    private static void copying() {
        Sentence.of("Copies n elements of array a, from index i on, to array b, from index j on; the copied values are those before the call.");
        String five = "array(4,5)=9 set(9,0,4,1)=0 set(9,1,4,2)=0 set(9,2,4,3)=0 set(9,3,4,4)=0 set(9,4,4,5)=0 ";
        int[][] overlaps = {{0, 1, 4, 1, 1, 2, 3, 4}, {1, 0, 4, 2, 3, 4, 5, 5}, {0, 3, 2, 1, 2, 3, 1, 2}, {0, 0, 5, 1, 2, 3, 4, 5}, {2, 1, 2, 1, 3, 4, 4, 5}, {0, 4, 1, 1,
            2, 3, 4, 1}, {4, 4, 0, 1, 2, 3, 4, 5}, {5, 0, 0, 1, 2, 3, 4, 5}};
        for (int[] o : overlaps) {
            Sentence.run(OPEN + five + "copy(9," + o[0] + ",9," + o[1] + "," + o[2] + ")=0 element(9,0)=" + o[3] + " element(9,1)=" + o[4] + " element(9,2)=" + o[5]
                + " element(9,3)=" + o[6] + " element(9,4)=" + o[7]);
        }
        // The same with an array that another transaction created.
        Sentence.run(KEPT + "begin()=2 set(4,0,4,7)=0 copy(4,0,4,1,1)=0 element(4,1)=7 view(1)=true element(4,0)=0 element(4,1)=0 begin()=3 copy(4,0,4,0,2)=0 "
            + "element(4,0)=0");
        Sentence.of("-1 if one of the two is no array, or the element type of one of them is plain and that of the other one is not the same;");
        Sentence.run(OPEN + "array(5,2)=9 array(4,1)=10 array(8,2)=11 array(15,2)=12 copy(4,0,9,0,1)=-1 copy(9,0,4,0,1)=-1 copy(4,0,9,0,0)=-1 copy(4,0,10,0,1)=0 "
            + "copy(4,0,5,0,1)=-1 copy(5,0,4,0,1)=-1 copy(5,0,8,0,1)=0 copy(8,0,5,0,1)=0 copy(11,0,12,0,2)=0 copy(12,0,5,0,2)=0 copy(11,0,4,0,1)=-1"
            + " copy(4,0,11,0,1)=-1 copy(4,0,3,0,1)=-1 copy(3,0,4,0,1)=-1 copy(7,0,4,0,1)=-1 copy(4,0,7,0,1)=-1 copy(1,0,1,0,1)=-1 copy(6,0,6,0,1)=-1 "
            + "copy(0,0,4,0,1)=-3 copy(4,0,0,0,1)=-3 copy(0,0,0,0,0)=-3 copy(99,0,0,0,0)=-14 copy(4,0,99,0,0)=-14 copy(99,0,4,0,0)=-14");
        Sentence.of("-2 if n, i or j is negative, or beyond the end of an array;");
        Sentence.run(OPEN + five + "copy(9,0,4,0,2)=0 copy(9,0,4,0,3)=-2 copy(9,4,4,0,1)=0 copy(9,4,4,0,2)=-2 copy(9,5,4,0,0)=0 copy(9,5,4,0,1)=-2 copy(9,6,4,0,0)=-2 "
            + "copy(9,0,4,2,0)=0 copy(9,0,4,2,1)=-2 copy(9,0,4,3,0)=-2 copy(9,-1,4,0,0)=-2 copy(9,-1,4,0,1)=-2 copy(9,0,4,-1,0)=-2 copy(9,0,4,-1,1)=-2"
            + " copy(9,0,4,0,-1)=-2 copy(9,2,4,2,-1)=-2 copy(9,1,4,0,2147483647)=-2 copy(9,2147483647,4,0,1)=-2 copy(9,0,4,2147483647,2147483647)=-2 "
            + "copy(9,-2147483648,4,0,0)=-2 copy(9,0,4,0,-2147483648)=-2 copy(9,2147483647,4,2147483647,2147483647)=-2 element(4,0)=5 element(4,1)=2");
        Sentence.of("-6 if a reference does not fit the elements of b: then the elements before it have been copied.");
        // P[] cannot hold what is no P; C[] no other P: D is one.
        String types = "`class P{}class C extends P{}class D extends P{}` declare()=3 begin()=1 array(10,4)=1 array(11,4)=2 make(11)=3 make(12)=4 make(11)=5 ";
        Sentence.run(types + "set(1,0,8,3)=0 set(1,1,8,0)=0 set(1,2,8,4)=0 set(1,3,8,5)=0 set(2,1,8,3)=0 set(2,2,8,3)=0 copy(1,0,2,0,4)=-6 element(2,0)=3 "
            + "element(2,1)=0 element(2,2)=3 element(2,3)=0 copy(1,0,2,0,2)=0 copy(1,2,2,0,1)=-6 element(2,0)=3 copy(1,3,2,0,1)=0 element(2,0)=5"
            + " copy(1,2,2,0,0)=0 copy(1,1,2,1,2)=-6 element(2,1)=0 copy(2,0,1,0,4)=0 element(1,0)=5 copy(1,0,2,0,4)=0");
        Sentence.run(types + "array(8,2)=6 set(6,0,8,1)=0 set(6,1,8,3)=0 copy(6,0,2,0,2)=-6 element(2,0)=0 copy(6,1,2,0,1)=0 element(2,0)=3 copy(6,1,1,0,1)=0 "
            + "copy(2,0,6,0,2)=0 element(6,0)=3 element(6,1)=0");
        Sentence.of("Returns the number of the new array; -13; -14; -3; -1; -12.");
        Sentence.run(OPEN + "set(4,1,4,9)=0 cloned(4)=9 kindOf(9)=15 size(9)=2 element(9,0)=0 element(9,1)=9 set(9,1,4,8)=0 element(4,1)=9 cloned(3)=-1 cloned(7)=-1 "
            + "cloned(1)=-1 cloned(6)=-1 cloned(0)=-3 cloned(10)=-14 cloned(-1)=-14 array(4,0)=10 cloned(10)=11 size(11)=0 array(4,400)=12 cloned(12)=13 size(13)=400");
    }

    private static void rootsAndAlive() {
        Sentence.of("`t`: an object, or 0 for null");
        Sentence.run(OPEN + "root(0,3)=0 rootAt(0)=3 root(0,0)=0 rootAt(0)=0 root(15,7)=0 rootAt(15)=7 root(3,1)=0 root(16,3)=-2 root(-1,3)=-2 root(0,9)=-14 "
            + "root(0,-1)=-14 root(16,9)=-14 root(2147483647,0)=-2 root(-2147483648,0)=-2 rootAt(16)=-2 rootAt(-1)=-2 rootAt(2147483647)=-2 rootAt(-2147483648)=-2"
            + " rootAt(3)=1 rootAt(0)=0");
        Sentence.of("Returns 0; -13; -14; -2.");
        Sentence.run("root(0,0)=-13 " + KEPT + "root(0,0)=-13 view(1)=true root(99,99)=-13 begin()=2 root(0,99)=-14 root(99,99)=-14 root(99,0)=-2 root(16,0)=-2 "
            + "root(-1,0)=-2 root(15,0)=0 root(0,3)=0 crash(9999)=true root(0,0)=-13");
        Sentence.of("Returns the object in it, 0 for null; -13; -2.");
        Sentence.run("rootAt(0)=-13 " + KEPT + "rootAt(99)=-13 view(1)=true rootAt(0)=3 rootAt(5)=8 rootAt(6)=0 rootAt(15)=0 rootAt(16)=-2 rootAt(-1)=-2 view(0)=true "
            + "rootAt(0)=0 crash(9999)=true rootAt(99)=-13");
        Sentence.of("Returns whether there is a view in which the object with this number is alive.");
        Sentence.run(CLASSES + "alive(1)=false begin()=1 alive(1)=true alive(2)=true alive(3)=false alive(0)=false alive(-1)=false make(12)=3 alive(3)=true "
            + "alive(4000)=false alive(4001)=false alive(2147483647)=false alive(-2147483648)=false view(0)=true alive(3)=false use(1)=true alive(3)=true drop(1)=true"
            + " alive(3)=false alive(1)=false");
    }

    private static void calling() {
        Sentence.of("Returns 0; -13; -14 (also if an argument is an object that is not alive); -3; -1 if steps is not allowed, t is no object of a class or record, "
            + "there is no such method, the number of arguments is wrong, or an argument does not fit;"
            + " or the code of a failed evaluation.");
        String three = "argument(4,5)=1 argument(4,6)=2 argument(8,3)=3 ";
        Sentence.run(OPEN + three + "`g`call(3,0)=0 answered()=5 steps()=0 " + three + "`g`call(3,100000)=0 " + three + "`g`call(3,100001)=-1 "
            + "answered()=0 " + three + "`g`call(3,-1)=-1 " + three + "`g`call(3,2147483647)=-1 " + three + "`g`call(3,-2147483648)=-1 " + three
            + "`f`call(3,9)=-1 `g`call(3,9)=-1"
            + " argument(4,5)=1 argument(4,6)=2 `g`call(3,9)=-1 " + three + "argument(4,0)=4 `g`call(3,9)=-1 argument(5,5)=1 argument(4,6)=2 argument(8,3)=3 "
            + "`g`call(3,9)=-1 argument(3,5)=1 argument(5,6)=2 argument(8,0)=3 `g`call(3,9)=0 answered()=5 argument(4,5)=1 argument(4,6)=2 argument(8,4)=3 "
            + "`g`call(3,9)=-1"
            + " argument(4,5)=1 argument(4,6)=2 argument(8,99)=3 `g`call(3,9)=-14 argument(8,5)=1 argument(4,6)=2 argument(8,3)=3 `g`call(3,9)=-1 argument(4,5)=1 "
            + "argument(6,0)=2 argument(8,3)=3 `g`call(3,9)=-1 argument(4,5)=1 argument(4,6)=2 argument(4,3)=3 `g`call(3,9)=-1");
        Sentence.run(OPEN + "`f`call(0,9)=-3 `f`call(9,9)=-14 `f`call(-1,9)=-14 `f`call(4,9)=-1 `f`call(7,9)=-1 `f`call(1,9)=-1 `f`call(6,9)=-1 `n`call(3,9)=-1 "
            + "``call(3,9)=-1 `F`call(3,9)=-1 `f `call(3,9)=-1 `f()`call(3,9)=-1 `class`call(3,9)=-1 `length`call(7,9)=-1 `never heard of`call(3,9)=-1 "
            + "`bad`call(3,9)=-8 steps()=4"
            + " answered()=0 `bad`call(3,3)=-10 steps()=3 `f`call(3,1)=0 steps()=1 `f`call(3,0)=-10 steps()=0 `x`call(3,9)=-1 steps()=0");
        Sentence.of("Tray and arguments are emptied, unless the result is -13.");
        Sentence.run(OPEN + "drop(1)=true argument(4,1)=1 `f`call(3,9)=-13 end(1)=1 argument(4,1)=2 view(0)=true call(3,9)=-14 end(1)=-1 argument(4,1)=1 "
            + "`x`call(0,9)=-3 end(1)=-1 argument(4,1)=1");
        Sentence.of("Returns the bits of the result of the latest call of call; 0 if it did not return 0, or there was none.");
        String five = "put(3,0,4,5)=0 `f`call(3,9)=0 answered()=5 ";
        Sentence.run("answered()=0 " + OPEN + five + "`bad`call(3,9)=-8 answered()=0 " + five + "`x`call(3,9)=-1 answered()=0 " + five + "`f`call(9,9)=-14 answered()=0 "
            + five + "`from c in C give c.n`ask(9)=1 answered()=5 keep(1)=1 answered()=5 `f`call(3,9)=-13 answered()=0 end(1)=1");
        Sentence.of("Returns the number of steps that the latest call of call or ask counted; 0 if it did not come to an evaluation.");
        String one = "`f`call(3,9)=0 steps()=1 ";
        Sentence.run("steps()=0 " + OPEN + one + "`x`call(3,9)=-1 steps()=0 " + one + "`f`call(9,9)=-14 steps()=0 " + one + "`from c in C give c.n`ask(9)=1 steps()=2 "
            + "`from c in C give`ask(9)=-21 steps()=0 " + one + "`from c in C give x`ask(9)=-22 steps()=0 " + one + "`from c in C give c`ask(-1)=-1 steps()=0 " + one
            + "`from c in C give c`ask(0)=-10 steps()=0 " + one + "keep(1)=1 steps()=1 `from c in C give c`ask(9)=-13 steps()=0 view(1)=true "
            + "end(0)=0 " + one + "drop(9)=false view(1)=true `f`call(3,9)=0 steps()=1 begin()=2 drop(2)=true `f`call(3,9)=-13 steps()=0");
    }

    private static void asking() {
        Sentence.of("Returns the number of rows; -13; -1 if steps is not allowed; -21 or -22 for error 1 or 2 (section 2); -12; or the code of a failed evaluation.");
        Sentence.run(OPEN + "`from c in C give c`ask(100000)=1 `from c in C give c`ask(100001)=-1 `from c in C give c`ask(-1)=-1 `from c in C give c`ask(2147483647)=-1 "
            + "`from c in C give c`ask(-2147483648)=-1 `nothing`ask(100001)=-1 place()=-1 `nothing`ask(0)=-21 place()=0 `from c in X give c`ask(0)=-22 place()=10"
            + " `from e in E give e`ask(0)=-10 `from e in E give e`ask(2)=2 `from c in C give c.c.n`ask(9)=-3 `from c in C give \"a\".at(9)`ask(9)=-2 `from c in C give "
            + "(R)(Object)c`ask(9)=-7 `from c in C give c.bad()`ask(9)=-8");
        Sentence.of("`r`: a row of the latest query that returned a number of rows, from 0");
        Sentence.run(OPEN + "answer(0,0)=0 `from e in E give e,e.number+5`ask(99)=2 answer(0,0)=1 answer(0,1)=5 answer(1,0)=2 answer(1,1)=6 answer(2,0)=0 "
            + "answer(-1,0)=0 answer(0,2)=0 answer(0,-1)=0 answer(2147483647,2147483647)=0 answer(-2147483648,-2147483648)=0 `from e in E give`ask(9)=-21 answer(1,1)=6"
            + " `from e in E give x`ask(9)=-22 answer(1,1)=6 `from e in E give 1/0`ask(9)=-8 answer(1,1)=6 `from e in E give 9,8,7`ask(1)=-10 answer(1,1)=6 "
            + "answer(0,2)=0 `from e in E where false give 7`ask(9)=0 answer(0,0)=0 answer(1,1)=0 answerKind(0)=4 answerKind(1)=-1");
        Sentence.of("Returns the bits; 0 if there is no such row or column.");
        Sentence.run(OPEN + "`from e in E give -e.number,e==E.L,-1.5,(float)-2,e` ask(99)=-21 `from e in E give -e.number,e==E.L,-1.5,(float)-2` ask(99)=2 "
            + "answer(1,0)=-1 answer(1,1)=1 answer(0,1)=0 answer(1,2)=-1.5d answer(1,3)=-2.0f answer(1,4)=0 answer(2,3)=0");
        Sentence.of("Returns its type, 8 for that of null; -1 if there is no such column.");
        Sentence.run(OPEN + "answerKind(0)=-1 `from e in E give e,null,true,(Object)e`ask(99)=2 answerKind(0)=13 answerKind(1)=8 answerKind(2)=0 answerKind(3)=8 "
            + "answerKind(4)=-1 answerKind(-1)=-1 answerKind(2147483647)=-1 answerKind(-2147483648)=-1 `from e in E give 1/0`ask(9)=-8 answerKind(0)=13"
            + " `from c in C give c.n,c.c,c.d,'x'`ask(9)=1 answerKind(0)=4 answerKind(1)=12 answerKind(2)=7 answerKind(3)=3 `from c in C give "
            + "(byte)1,(short)1,1L,(float)1`ask(9)=1 answerKind(0)=1 answerKind(1)=2 answerKind(2)=5 answerKind(3)=6 `from c in C give \"x\",(int[])null`ask(9)=1 "
            + "answerKind(0)=9 answerKind(1)=15");
    }

    private static void ranges() {
        Sentence.of("Finds the objects alive in the view, of type k or a subtype, whose field i has a value from low to high (compared as numbers; of floats and "
            + "doubles by their values, so -0.0 and 0.0 are equal).");
        // 10 A, 11 B, 12 D; values of j in objects 1 to 6.
        String start = "`class A{long j;double d;float f;boolean z;char c;Object o;byte b;}class B extends A{int own;}class D extends B{}interface I{}enum E{K}record "
            + "R(int n,Text t){}` declare()=6 begin()=1 make(10)=2 make(11)=3 make(12)=4 make(10)=5 ";
        Sentence.run(start + "put(2,0,5,-9223372036854775808)=0 put(3,0,5,9223372036854775807)=0 put(5,0,5,-1)=0 range(10,0,-9223372036854775808,9223372036854775807)=4 "
            + "found(0)=2 found(1)=5 found(2)=4 found(3)=3 found(4)=0 range(10,0,-1,0)=2 found(0)=5 found(1)=4 range(10,0,0,-1)=0 found(0)=0"
            + " range(10,0,9223372036854775807,9223372036854775807)=1 found(0)=3 range(10,0,-9223372036854775807,9223372036854775806)=2 "
            + "range(11,0,-9223372036854775808,9223372036854775807)=2 found(0)=4 found(1)=3 range(12,0,0,0)=1 found(0)=4 range(12,0,1,9)=0");
        Sentence.run(start + "put(2,1,7,-0.0d)=0 put(4,1,7,-1.0d)=0 put(5,1,7,0x7ff0000000000000)=0 range(10,1,0.0d,0.0d)=2 found(0)=2 found(1)=3 "
            + "range(10,1,-0.0d,-0.0d)=2 found(0)=2 range(10,1,0xfff0000000000000,0x7ff0000000000000)=4 found(0)=4 found(1)=2 found(2)=3 found(3)=5 "
            + "range(10,1,-1.0d,-1.0d)=1"
            + " range(10,1,0x8000000000000001,0x0000000000000001)=2 range(10,1,0x7fefffffffffffff,0x7ff0000000000000)=1 range(10,1,1.0d,-1.0d)=0");
        Sentence.run(start + "put(2,2,6,-0.0f)=0 put(4,2,6,-1.0f)=0 put(5,2,6,0x7f800000)=0 put(3,2,6,-2.5f)=0 range(10,2,0.0f,0.0f)=1 found(0)=2 "
            + "range(10,2,-0.0f,-0.0f)=1 range(10,2,0xff800000,0x7f800000)=4 found(0)=3 found(1)=4 found(2)=2 found(3)=5 range(10,2,-2.5f,-1.0f)=2 "
            + "range(10,2,-1.0f,-2.5f)=0");
        Sentence.run(start + "put(3,3,0,1)=0 put(4,4,3,65535)=0 put(5,6,1,-128)=0 range(10,3,0,1)=4 found(0)=2 found(1)=4 found(2)=5 found(3)=3 range(10,3,1,1)=1 "
            + "range(10,3,1,0)=0 range(10,4,0,65535)=4 found(3)=4 range(10,4,1,65535)=1 range(10,6,-128,-1)=1 found(0)=5 range(10,6,-127,127)=3 range(11,7,0,0)=2");
        // A range behind a query that was ordered by texts.
        Sentence.run(start + "`from a in A order \"t\" give a`ask(99)=4 range(10,0,-9,9)=4 found(0)=2 found(1)=3 found(3)=5 put(5,0,5,9)=0 put(2,0,5,3)=0 "
            + "put(4,0,5,2)=0 put(3,0,5,1)=0 `from a in A order \"u\" down give a`ask(99)=4"
            + " range(10,0,-9,9)=4 found(0)=3 found(1)=4 found(2)=2 found(3)=5");
        Sentence.of("found tells them, in ascending order of value, objects with equal values in ascending order of number.");
        StringBuilder many = new StringBuilder("`class A{int n;}` declare()=1 begin()=1 ");
        for (int t = 1; t <= 100; t++) {
            many.append("make(10)=").append(t).append(" put(").append(t).append(",0,4,").append(t * 37 % 10 - 5).append(")=0 ");
        }
        ObjectHouse x = Sentence.run(many + "range(10,0,-2147483648,2147483647)=100");
        int n = 0;
        for (int v = -5; v < 5; v++) {
            for (int t = 1; t <= 100; t++) {
                if (t * 37 % 10 - 5 == v) {
                    Sentence.run(x, "found(" + n + ")=" + t);
                    n++;
                }
            }
        }
        Sentence.run(x, "found(100)=0 found(-1)=0 found(2147483647)=0 found(-2147483648)=0 range(10,0,4,4)=10 found(0)=7 found(9)=97 found(10)=0");
        Sentence.of("Returns the number of objects; -13; -14, also if there is no such field; -1 if its type is not plain, or does not have the bits low or high.");
        Sentence.run(start + "range(10,0,0,0)=4 range(10,7,0,0)=-14 range(10,-1,0,0)=-14 range(13,0,0,0)=-14 range(14,0,0,0)=-14 range(8,0,0,0)=-14 range(4,0,0,0)=-14 "
            + "range(16,0,0,0)=-14 range(-1,0,0,0)=-14 range(15,1,0,0)=-1 range(10,5,0,0)=-1 range(10,3,0,2)=-1 range(10,3,-1,1)=-1 range(10,4,0,65536)=-1"
            + " range(10,6,-129,0)=-1 range(10,2,0,-1)=-1 found(3)=5 found(0)=2 range(15,0,0,0)=0 found(0)=0 range(11,7,0,2147483648)=-1 range(11,8,0,0)=-14");
        Sentence.of("`n`: the position, from 0, of an object found by the latest call of range that returned a number");
        Sentence.run(start + "range(10,0,0,0)=4 found(0)=2 found(3)=5 found(4)=0 range(12,0,0,0)=1 found(0)=4 found(1)=0 found(3)=0 range(12,9,0,0)=-14 found(0)=4 "
            + "range(12,0,1,1)=0 found(0)=0");
        Sentence.of("Returns the number of the object; 0 if there is none.");
        Sentence.run("found(0)=0 " + start + "found(0)=0 range(12,0,0,0)=1 found(0)=4 found(1)=0 drop(1)=true found(0)=4 range(12,0,0,0)=-13 found(0)=4 view(0)=true "
            + "range(10,0,0,0)=0 found(0)=0");
    }

    private static void graphs() {
        Sentence.of("`i`: the position of a byte of the graph that was written last, from 0");
        Sentence.run("at(0)=-1 " + OPEN + "at(0)=-1 write(1)=14 at(0)=79 at(8)=0 at(9)=0 at(13) at(14)=-1 at(-1)=-1 at(2147483647)=-1 at(-2147483648)=-1 write(2)=14 "
            + "at(9)=1 write(0)=-3 write(99)=-14 at(9)=1 drop(1)=true at(9)=1 write(1)=-13 at(9)=1 at(14)=-1");
        Sentence.of("Returns the byte; -1 if there is none.");
        Sentence.run(OPEN + "array(1,1)=9 set(9,0,1,-1)=0 write(9)=14 at(9)=255 at(8)=1 at(7)=0 at(13) at(14)=-1 at(-1)=-1");
        Sentence.of("Returns the number of the first object; -13; -20 if the graph has an error (place tells its position); -12.");
        Sentence.run(OPEN + Sentence.graph("4f47 01 02'[I' 01 00 01 00000007") + " read()=9 element(9,0)=7 `x`read()=-20 place()=0 read()=-20 place()=0 view(0)=true "
            + "`x`read()=-13 place()=-1 end(1)=1");
        Sentence.of("`what`: 0: 1 for SET, 2 for NEW; 1: the object; 2: k, or the type; 3: the old bits, or the length; 4: the new bits, 0 for NEW");
        Sentence.run(OPEN + "row(0,0)=0 make(12)=9 put(9,0,4,-1)=0 put(9,1,8,9)=0 make(12)=10 put(9,1,8,10)=0 patch(3,9)=3 row(0,0)=1 row(0,1)=3 row(0,2)=0 row(0,3)=0 "
            + "row(0,4)=-1 row(1,0)=2 row(1,1)=-1 row(1,2)=12 row(1,3)=0 row(1,4)=0 row(2,0)=1 row(2,1)=3 row(2,2)=1 row(2,3)=0 row(2,4)=-1 row(3,0)=0 row(-1,0)=0"
            + " row(0,5)=0 row(0,-1)=0 row(2147483647,2147483647)=0 row(-2147483648,-2147483648)=0 patch(3,0)=-3 patch(3,4)=-1 row(2,4)=-1 patch(3,3)=0 row(0,0)=0");
        Sentence.of("Returns the number; 0 if there is no such row, or what is not 0 to 4.");
        Sentence.run(OPEN + "make(12)=9 put(9,0,4,-1)=0 patch(3,9)=1 row(0,0)=1 row(0,4)=-1 row(0,5)=0 row(0,-1)=0 row(1,0)=0 row(1,4)=0 row(-1,4)=0");
        Sentence.of("Returns 0; -13; -15 if an old value is not there (section 7); -12.");
        Sentence.run("apply()=-13 " + CLASSES + "apply()=-13 view(0)=true apply()=-13 begin()=1 apply()=0 make(12)=3 make(12)=4 put(4,0,4,1)=0 patch(3,4)=1 apply()=0 "
            + "get(3,0)=1 apply()=-15 get(3,0)=1 view(0)=true apply()=-13");
        Sentence.of("Returns 1 if their graphs are the same, else 0; -13; -14; -3.");
        Sentence.run(OPEN + "same(3,3)=1 same(3,4)=0 same(4,4)=1 same(7,7)=1 same(1,2)=0 same(0,3)=-3 same(3,0)=-3 same(0,0)=-3 same(9,3)=-14 same(3,9)=-14 "
            + "same(9,0)=-14 drop(1)=true same(1,1)=-13");
    }

    private static void failedCalls() {
        Sentence.of("A call that returns an error code changes nothing");
        // After all these refusals everything is as before.
        Sentence.run(OPEN + "put(3,0,4,5)=0 set(4,0,4,6)=0 make(11)=-1 array(4,401)=-12 array(4,-1)=-4 record(14)=-1 |07|text()=-1 put(3,0,5,1)=-1 set(4,9,4,1)=-2 "
            + "copy(4,0,5,0,1)=-1 copy(4,1,4,0,2)=-2 cloned(3)=-1 root(16,3)=-2 keep(9)=-14 drop(9)=false use(9)=false view(9)=false sweep(9)=-14 `xx`read()=-20"
            + " `bad`call(3,9)=-8 `from c in C give 1/0`ask(9)=-8 begin()=2 use(1)=true kinds()=18 get(3,0)=5 element(4,0)=6 element(4,1)=0 rootAt(0)=0 newest()=0 "
            + "logged()=0 make(12)=9 begin()=3");
    }
}
