/** At least one test for each promise of the document: ordinary inputs, the edges that it names, wrong inputs. */
public final class PromiseTests {
    // Types: 10 S, 11 P, 12 C, 13 E, 14 R, 15 T, 16 int[]; the constants are objects 1, 2 and 3, the next object is 4.
    private static final String TEXT = "interface S{int f();}abstract class P{int n;}class C extends P implements S{C c;double d;int f(){return n;}"
        + "int g(int a,long b){return a;}boolean is(C o){return o==this;}int bad(){return 1/(n-n);}}enum E{X,Y,Z}record R(int a,Text t,C c){}"
        + "class T{int[] is;Object o;float w;long l;boolean b;char h;byte y;short s;}";

    private static void is(String call, long got, long due) {
        Check.is(call, got, due);
    }

    private static void is(String call, boolean got, boolean due) {
        Check.is(call, got, due);
    }

    private static ObjectHouse open() {
        return Check.open(TEXT);
    }

    /** A house that has crashed with everything in its log. */
    private static ObjectHouse closed() {
        ObjectHouse x = open();
        x.make(12);
        x.root(0, 4);
        x.keep(1);
        is("crash(1000)", x.crash(1000), true);
        return x;
    }

    public static void main(String[] args) {
        p1();
        p2();
        p3();
        p4();
        p5();
        p6();
        p7to11();
        p12();
        p13();
        p14();
        p15();
        p16();
        p17();
        p18();
        p19();
        p20();
        p21();
        p22();
        p23();
        p24();
        p25();
        p26();
        p27();
        p28();
        p29();
        p30();
        p31();
        p32();
        p33();
        p34();
        p35();
        p36();
        p37();
        p38();
        p39();
        p40();
        p41and42();
        p43();
        p44and45();
        p46and47();
        p48();
        p49();
        p50and51();
        p52();
        p53();
        p54and55();
        p56();
        p57();
        p58();
        Check.end("PromiseTests");
    }

    private static void p1() {
        ObjectHouse x = new ObjectHouse();
        is("end(1)", x.end(1), -1);
        is("end(0)", x.end(0), 0);
        is("kinds()", x.kinds(), 0);
        is("newest()", x.newest(), -1);
        is("begin()", x.begin(), -13);
        is("argument(4, 0)", x.argument(4, 0), 1);
        is("reopen()", x.reopen(), -13);
        is("logged()", x.logged(), 0);
        is("place()", x.place(), -1);
        is("clash()", x.clash(), -1);
        is("code()", x.code(), 0);
        is("answered()", x.answered(), 0);
        is("steps()", x.steps(), 0);
        is("answerKind(0)", x.answerKind(0), -1);
    }

    private static void p2() {
        ObjectHouse x = new ObjectHouse();
        is("feed", x.feed(0x636c6173, 0x7320417b, 0x7d202020, 0x20202020, 0x20202020), 20);
        is("declare()", x.declare(), 1);
        ObjectHouse y = new ObjectHouse();
        for (int i = 1; i <= 3277; i++) {
            is("feed", y.feed(0, 0, 0, 0, 0), 20 * i);
        }
        is("feed", y.feed(0, 0, 0, 0, 0), -1);
        is("end(65540)", y.end(65540), 65540);
    }

    private static void p3() {
        ObjectHouse x = new ObjectHouse();
        x.feed(0, 0, 0, 0, 0);
        is("end(-1)", x.end(-1), -1);
        is("end(21)", x.end(21), -1);
        is("end(20)", x.end(20), 20);
        is("end(7)", x.end(7), 7);
        is("end(8)", x.end(8), -1);
        is("feed", x.feed(0, 0, 0, 0, 0), 27);
    }

    private static void p4() {
        ObjectHouse x = Check.house(TEXT);
        is("kinds()", x.kinds(), 17);
        Check.tray(x, "class Q{}");
        is("declare()", x.declare(), -13);
        is("end(9)", x.end(9), 9);
        ObjectHouse y = new ObjectHouse();
        is("declare()", y.declare(), 0);
        is("kinds()", y.kinds(), 10);
        is("declare()", y.declare(), -13);
        is("begin()", y.begin(), 1);
        ObjectHouse z = new ObjectHouse();
        for (int i = 0; i < 1001; i++) {
            z.feed(0x20202020, 0x20202020, 0x20202020, 0x20202020, 0x20202020);
        }
        is("end(20001)", z.end(20001), 20001);
        is("declare()", z.declare(), -1);
        is("place()", z.place(), 20000);
        is("end(1)", z.end(1), -1);
        for (int i = 0; i < 1000; i++) {
            z.feed(0x20202020, 0x20202020, 0x20202020, 0x20202020, 0x20202020);
        }
        is("declare()", z.declare(), 0);
    }

    private static void p5() {
        ObjectHouse x = new ObjectHouse();
        Check.tray(x, "class A{");
        is("declare()", x.declare(), -1);
        is("place()", x.place(), 8);
        Check.tray(x, "class A{B b;}");
        is("declare()", x.declare(), -2);
        is("place()", x.place(), 8);
        Check.tray(x, "class A{}");
        is("declare()", x.declare(), 1);
        is("place()", x.place(), -1);
        x.begin();
        is("ask", Check.ask(x, "from a in A give 1 +", 9), -21);
        is("place()", x.place(), 20);
        is("ask", Check.ask(x, "from a in A give a, b", 9), -22);
        is("place()", x.place(), 20);
        is("ask", Check.ask(x, "from a in A give 1/0", 9), 0);
        is("place()", x.place(), -1);
        Check.tray(x, "OG");
        is("read()", x.read(), -20);
        is("place()", x.place(), 0);
        is("declare()", x.declare(), -13);
        is("place()", x.place(), -1);
    }

    private static void p6() {
        ObjectHouse x = new ObjectHouse();
        is("kind", Check.kind(x, "I"), -13);
        is("end(1)", x.end(1), 1);
        x = Check.house(TEXT);
        is("kind", Check.kind(x, "Z"), 0);
        is("kind", Check.kind(x, "D"), 7);
        is("kind", Check.kind(x, "LObject;"), 8);
        is("kind", Check.kind(x, "LText;"), 9);
        is("kind", Check.kind(x, "LE;"), 13);
        is("kind", Check.kind(x, "[I"), 16);
        is("kind", Check.kind(x, "[[[LE;"), 19);
        is("kind", Check.kind(x, "[LE;"), 17);
        is("kind", Check.kind(x, "V"), -14);
        is("kind", Check.kind(x, ""), -14);
        is("kind", Check.kind(x, "["), -14);
        is("kind", Check.kind(x, "LE"), -14);
        is("kind", Check.kind(x, "LQ;"), -14);
        is("kind", Check.kind(x, "[[[[[[[[J"), 27);
        is("kind", Check.kind(x, "[[[[[[[[[J"), -12);
        is("kind", Check.kind(x, "[[[[[[[[[V"), -14);
        is("kinds()", x.kinds(), 28);
        String[] bases = {"Z", "B", "S", "C", "I", "F", "D", "LObject;", "LText;", "LS;", "LP;", "LC;", "LE;", "LR;", "LT;"};
        for (String b : bases) {
            Check.kind(x, "[[[[[[[[" + b);
        }
        x = Check.house("class A{}".repeat(1) + classes(48));
        for (int i = 0; i < 42; i++) {
            is("kind", Check.kind(x, "[[[[[[[[LA" + i + ";") > 0, true);
        }
        is("kinds()", x.kinds(), 59 + 336);
        is("kind", Check.kind(x, "[[[[[[LA43;"), -12);
        is("kinds()", x.kinds(), 395);
        is("kind", Check.kind(x, "[[[[[LA43;"), 399);
        is("kind", Check.kind(x, "[I"), -12);
        is("kind", Check.kind(x, "[LA43;"), 395);
        x.begin();
        is("array(4, 1)", x.array(4, 1), -12);
    }

    private static String classes(int n) {
        StringBuilder s = new StringBuilder();
        for (int i = 0; i < n; i++) {
            s.append("class A").append(i).append("{}");
        }
        return s.toString();
    }

    private static void p7to11() {
        ObjectHouse x = new ObjectHouse();
        is("fits(1, 2)", x.fits(1, 2), -13);
        is("fields(1)", x.fields(1), -13);
        is("field(1, 0)", x.field(1, 0), -13);
        is("named(1)", x.named(1), -13);
        x = Check.house(TEXT);
        // Widening: from the row to the column, byte to double.
        String[] rows = {"10000000", "01101111", "00101111", "00011111", "00001111", "00000111", "00000011", "00000001"};
        for (int k = 0; k < 8; k++) {
            for (int j = 0; j < 8; j++) {
                is("fits(" + k + ", " + j + ")", x.fits(k, j), rows[k].charAt(j) - '0');
            }
        }
        is("fits(12, 10)", x.fits(12, 10), 1);
        is("fits(12, 11)", x.fits(12, 11), 1);
        is("fits(11, 12)", x.fits(11, 12), 0);
        is("fits(10, 8)", x.fits(10, 8), 1);
        is("fits(16, 8)", x.fits(16, 8), 1);
        is("fits(4, 8)", x.fits(4, 8), 0);
        is("fits(9, 8)", x.fits(9, 8), 1);
        is("fits(17, 8)", x.fits(17, 8), -14);
        is("fits(8, -1)", x.fits(8, -1), -14);
        int cs = Check.kind(x, "[LC;");
        int ps = Check.kind(x, "[LP;");
        int iss = Check.kind(x, "[[I");
        int os = Check.kind(x, "[LObject;");
        int js = Check.kind(x, "[J");
        is("C[] in P[]", x.fits(cs, ps), 1);
        is("P[] in C[]", x.fits(ps, cs), 0);
        is("int[][] in Object[]", x.fits(iss, os), 1);
        is("int[] in Object[]", x.fits(16, os), 0);
        is("int[] in long[]", x.fits(16, js), 0);
        is("fields(12)", x.fields(12), 3);
        is("fields(11)", x.fields(11), 1);
        is("fields(14)", x.fields(14), 3);
        is("fields(10)", x.fields(10), 0);
        is("fields(13)", x.fields(13), 0);
        is("fields(4)", x.fields(4), 0);
        is("fields(16)", x.fields(16), 0);
        is("fields(99)", x.fields(99), -14);
        is("field(12, 0)", x.field(12, 0), 4);
        is("field(12, 1)", x.field(12, 1), 12);
        is("field(12, 2)", x.field(12, 2), 7);
        is("field(12, 3)", x.field(12, 3), -14);
        is("field(12, -1)", x.field(12, -1), -14);
        is("field(15, 0)", x.field(15, 0), 16);
        is("field(4, 0)", x.field(4, 0), -14);
        is("field(-1, 0)", x.field(-1, 0), -14);
        Check.tray(x, "n");
        is("named(12)", x.named(12), 0);
        is("end(1)", x.end(1), -1);
        Check.tray(x, "d");
        is("named(12)", x.named(12), 2);
        Check.tray(x, "d");
        is("named(11)", x.named(11), -14);
        Check.tray(x, "d ");
        is("named(12)", x.named(12), -14);
        Check.tray(x, "f");
        is("named(12)", x.named(12), -14);
        Check.tray(x, "t");
        is("named(14)", x.named(14), 1);
        Check.tray(x, "t");
        is("named(99)", x.named(99), -14);
        ObjectHouse y = closed();
        is("kinds()", y.kinds(), 17);
        is("fits(1, 2)", y.fits(1, 2), -13);
        is("fields(12)", y.fields(12), -13);
        Check.tray(y, "n");
        is("named(12)", y.named(12), -13);
        is("end(1)", y.end(1), 1);
    }

    private static void p12() {
        ObjectHouse x = Check.house(TEXT);
        for (int i = 1; i <= 8; i++) {
            is("begin()", x.begin(), i);
        }
        is("begin()", x.begin(), -12);
        is("make(12)", x.make(12), 4);
        is("drop(8)", x.drop(8), true);
        is("make(12)", x.make(12), -13);
        is("begin()", x.begin(), 9);
        is("alive(4)", x.alive(4), false);
        is("make(12)", x.make(12), 5);
        is("begin()", closed().begin(), -13);
    }

    private static void p13() {
        ObjectHouse x = open();
        x.make(12);
        x.begin();
        is("alive(4)", x.alive(4), false);
        is("use(1)", x.use(1), true);
        is("alive(4)", x.alive(4), true);
        is("use(3)", x.use(3), false);
        is("use(0)", x.use(0), false);
        is("use(-1)", x.use(-1), false);
        is("alive(4)", x.alive(4), true);
        x.keep(1);
        is("use(1)", x.use(1), false);
        is("use(2)", x.use(2), true);
        is("alive(4)", x.alive(4), false);
        is("use(1)", closed().use(1), false);
    }

    private static void p14() {
        ObjectHouse x = open();
        x.make(12);
        x.root(2, 4);
        x.keep(1);
        is("kindOf(1)", x.kindOf(1), -13);
        is("view(0)", x.view(0), true);
        is("alive(4)", x.alive(4), false);
        is("rootAt(2)", x.rootAt(2), 0);
        is("make(12)", x.make(12), -13);
        is("view(1)", x.view(1), true);
        is("alive(4)", x.alive(4), true);
        is("rootAt(2)", x.rootAt(2), 4);
        is("put", x.put(4, 0, 4, 1), -13);
        is("view(2)", x.view(2), false);
        is("view(-1)", x.view(-1), false);
        is("sweep(1)", x.sweep(1), 0);
        is("view(0)", x.view(0), false);
        is("view(0)", closed().view(0), false);
        is("view(0)", new ObjectHouse().view(0), false);
    }

    private static void p15() {
        ObjectHouse x = open();
        is("keep(2)", x.keep(2), -14);
        is("keep(1)", x.keep(1), 1);
        is("keep(1)", x.keep(1), -14);
        // A root that was read, then one that was changed.
        x.begin();
        x.rootAt(3);
        x.begin();
        x.root(3, 1);
        is("keep(3)", x.keep(3), 2);
        is("keep(2)", x.keep(2), -1);
        is("clash()", x.clash(), 0);
        is("use(2)", x.use(2), true);
        is("drop(2)", x.drop(2), true);
        // A class that was gone through, and an object of a subtype created by another one.
        x.begin();
        is("ask", Check.ask(x, "from p in P give p", 9), 0);
        x.begin();
        is("make(12)", x.make(12), 4);
        is("keep(5)", x.keep(5), 3);
        is("keep(4)", x.keep(4), -1);
        is("clash()", x.clash(), 4);
        // A text, or an object of another class, does no harm.
        x.begin();
        is("ask", Check.ask(x, "from t in T give t", 9), 0);
        x.begin();
        Check.text(x, "new");
        x.make(12);
        is("keep(7)", x.keep(7), 4);
        is("keep(6)", x.keep(6), 5);
        is("clash()", x.clash(), -1);
        // Versions up to 64.
        for (int v = 6; v <= 64; v++) {
            x.begin();
            is("keep", x.keep(v + 2), v);
        }
        x.begin();
        is("keep", x.keep(67), -12);
        is("use", x.use(67), true);
        is("keep", closed().keep(1), -13);
        // The log has room for 40000 bytes.
        ObjectHouse y = open();
        is("array(5, 400)", y.array(5, 400), 4);
        is("keep(1)", y.keep(1), 1);
        int one = y.logged();
        int n = 1;
        for (; y.logged() + one <= 40000; n++) {
            y.begin();
            y.set(4, 0, 4, n);
            is("keep", y.keep(n + 1), n + 1);
        }
        y.begin();
        y.set(4, 0, 4, n);
        is("keep", y.keep(n + 1), -12);
        is("newest()", y.newest(), n);
        is("element", y.element(4, 0), n);
        is("drop", y.drop(n + 1), true);
        is("logged()", y.logged() <= 40000, true);
        // All of the 40000 bytes, and one byte more.
        for (int more = 0; more <= 1; more++) {
            ObjectHouse z = open();
            for (int i = 0; i < 12; i++) {
                z.array(5, 400);
            }
            Check.text(z, "x".repeat(1000));
            Check.text(z, "x".repeat(409 + more));
            is("keep(1)", z.keep(1), more == 0 ? 1 : -12);
            is("logged()", z.logged(), more == 0 ? 40000 : 0);
        }
    }

    private static void p16() {
        ObjectHouse x = open();
        is("clash()", x.clash(), -1);
        x.make(12);
        x.make(12);
        x.root(0, 4);
        x.root(1, 5);
        x.keep(1);
        x.begin();
        x.begin();
        x.put(4, 0, 4, 1);
        x.put(5, 0, 4, 1);
        x.keep(3);
        x.use(2);
        x.get(5, 1);
        is("keep(2)", x.keep(2), -1);
        is("clash()", x.clash(), 5);
        x.put(4, 0, 4, 9);
        is("keep(2)", x.keep(2), -1);
        is("clash()", x.clash(), 4);
        is("keep(9)", x.keep(9), -14);
        is("clash()", x.clash(), 4);
        x.begin();
        is("keep(4)", x.keep(4), 3);
        is("clash()", x.clash(), -1);
        x.keep(2);
        is("clash()", x.clash(), 4);
        x.crash(0);
        is("clash()", x.clash(), -1);
    }

    private static void p17() {
        ObjectHouse x = open();
        x.make(12);
        is("drop(2)", x.drop(2), false);
        is("drop(1)", x.drop(1), true);
        is("drop(1)", x.drop(1), false);
        is("kindOf(4)", x.kindOf(4), -13);
        x.begin();
        is("alive(4)", x.alive(4), false);
        is("make(12)", x.make(12), 5);
        x.begin();
        is("drop(2)", x.drop(2), true);
        is("make(12)", x.make(12), 6);
        is("drop(1)", closed().drop(1), false);
    }

    private static void p18() {
        ObjectHouse x = new ObjectHouse();
        is("newest()", x.newest(), -1);
        x = open();
        is("newest()", x.newest(), 0);
        x.keep(1);
        is("newest()", x.newest(), 1);
        x.crash(99);
        is("newest()", x.newest(), -1);
        x.reopen();
        is("newest()", x.newest(), 1);
    }

    private static void p19() {
        ObjectHouse x = Check.house(TEXT);
        is("make(12)", x.make(12), -13);
        x.begin();
        is("make(12)", x.make(12), 4);
        is("get(4, 0)", x.get(4, 0), 0);
        is("get(4, 1)", x.get(4, 1), 0);
        for (int k : new int[] {0, 4, 8, 9, 10, 11, 13, 14, 16}) {
            is("make(" + k + ")", x.make(k), -1);
        }
        is("make(17)", x.make(17), -14);
        is("make(-1)", x.make(-1), -14);
        is("make(12)", x.make(12), 5);
        x.view(0);
        is("make(12)", x.make(12), -13);
        // 4000 objects, and 20000 fields and elements.
        x = Check.open("class Z{}class A{" + fields(40) + "}");
        for (int i = 1; i <= 49; i++) {
            x.array(4, 400);
        }
        for (int i = 0; i < 10; i++) {
            is("make(11)", x.make(11), 50 + i);
        }
        is("make(11)", x.make(11), -12);
        is("make(10)", x.make(10), 60);
        x = Check.open("class Z{}");
        for (int i = 1; i <= 4000; i++) {
            is("make(10)", x.make(10), i);
        }
        is("make(10)", x.make(10), -12);
        is("text()", Check.text(x, "a"), -12);
        is("array(4, 0)", x.array(4, 0), -12);
        is("drop(1)", x.drop(1), true);
        x.begin();
        is("make(10)", x.make(10), -12);
    }

    private static String fields(int n) {
        StringBuilder s = new StringBuilder();
        for (int i = 0; i < n; i++) {
            s.append("int f").append(i).append(";");
        }
        return s.toString();
    }

    private static void p20() {
        ObjectHouse x = new ObjectHouse();
        is("argument(0, 1)", x.argument(0, 1), 1);
        is("argument(0, 2)", x.argument(0, 2), -1);
        is("argument(1, -128)", x.argument(1, -128), 2);
        is("argument(1, 128)", x.argument(1, 128), -1);
        is("argument(2, 32767)", x.argument(2, 32767), 3);
        is("argument(2, -32769)", x.argument(2, -32769), -1);
        is("argument(3, 65535)", x.argument(3, 65535), 4);
        is("argument(3, -1)", x.argument(3, -1), -1);
        is("argument(4, -2147483648)", x.argument(4, -2147483648L), 5);
        is("argument(4, 2147483648)", x.argument(4, 2147483648L), -1);
        is("argument(5, least)", x.argument(5, Long.MIN_VALUE), 6);
        is("argument(6, -0.0)", x.argument(6, Check.bits(-0.0f)), 7);
        is("argument(6, sign extended)", x.argument(6, -1L << 31), -1);
        is("argument(6, not a number)", x.argument(6, 0x7FC00000L), -1);
        is("argument(6, infinity)", x.argument(6, 0xFF800000L), 8);
        is("argument(7, infinity)", x.argument(7, 0xFFF0000000000000L), 9);
        is("argument(7, not a number)", x.argument(7, 0xFFF0000000000001L), -1);
        is("argument(8, 0)", x.argument(8, 0), 10);
        is("argument(8, 2147483647)", x.argument(8, 2147483647L), 11);
        is("argument(8, -1)", x.argument(8, -1), -1);
        is("argument(8, 2147483648)", x.argument(8, 2147483648L), -1);
        is("argument(9, 0)", x.argument(9, 0), -1);
        is("argument(-1, 0)", x.argument(-1, 0), -1);
        for (int i = 12; i <= 40; i++) {
            is("argument(4, 0)", x.argument(4, 0), i);
        }
        is("argument(4, 0)", x.argument(4, 0), -12);
        is("argument(9, 0)", x.argument(9, 0), -1);
    }

    private static void p21() {
        ObjectHouse x = Check.house(TEXT);
        x.argument(3, 65);
        is("record(14)", x.record(14), -13);
        is("argument(8, 0)", x.argument(8, 0), 2);
        x.begin();
        is("argument(8, 0)", x.argument(8, 0), 3);
        is("record(14)", x.record(14), 4);
        is("get(4, 0)", x.get(4, 0), 65);
        is("kindOf(4)", x.kindOf(4), 14);
        is("record(14)", x.record(14), -1);
        x.argument(4, 1);
        is("record(99)", x.record(99), -14);
        is("argument", x.argument(4, 1), 1);
        x.argument(8, 77);
        x.argument(8, 0);
        is("record(12)", x.record(12), -14);
        is("record(12)", x.record(12), -1);
        x.argument(4, 1);
        x.argument(8, 4);
        x.argument(8, 0);
        is("record(14)", x.record(14), -1);
        x.argument(5, 1);
        x.argument(8, 0);
        x.argument(8, 0);
        is("record(14)", x.record(14), -1);
        x.argument(4, 1);
        x.argument(8, 0);
        x.argument(4, 0);
        is("record(14)", x.record(14), -1);
        ObjectHouse y = Check.open("record Q(double d,float f,long l){}record N(){}");
        y.argument(4, 3);
        y.argument(5, 3);
        y.argument(1, -3);
        is("record(10)", y.record(10), 1);
        is("get(1, 0)", y.get(1, 0), Check.bits(3.0));
        is("get(1, 1)", y.get(1, 1), Check.bits(3.0f));
        is("get(1, 2)", y.get(1, 2), -3);
        is("record(11)", y.record(11), 2);
        for (int i = 0; i < 50; i++) {
            y.array(4, 400 - (i == 49 ? 5 : 0));
        }
        y.argument(4, 3);
        y.argument(5, 3);
        y.argument(1, -3);
        is("record(10)", y.record(10), -12);
        is("record(11)", y.record(11), 53);
    }

    private static void p22() {
        ObjectHouse x = Check.house(TEXT);
        is("array(4, 3)", x.array(4, 3), -13);
        x.begin();
        is("array(4, 3)", x.array(4, 3), 4);
        is("kindOf(4)", x.kindOf(4), 16);
        is("size(4)", x.size(4), 3);
        is("element(4, 2)", x.element(4, 2), 0);
        is("array(10, 0)", x.array(10, 0), 5);
        is("kindOf(5)", x.kindOf(5), 17);
        is("array(4, -1)", x.array(4, -1), -4);
        is("array(4, 401)", x.array(4, 401), -12);
        is("array(4, 400)", x.array(4, 400), 6);
        is("array(99, -1)", x.array(99, -1), -14);
        is("array(-1, 1)", x.array(-1, 1), -14);
        int k = Check.kind(x, "[[[[[[[[I");
        is("array(8 pairs, 1)", x.array(k, 1), -12);
        is("array(7 pairs, 1)", x.array(k - 1, 1), 7);
        is("kindOf(7)", x.kindOf(7), k);
        is("kinds()", x.kinds(), 25);
        is("array(5, 401)", x.array(5, 401), -12);
        is("kinds()", x.kinds(), 25);
    }

    private static void p23() {
        ObjectHouse x = new ObjectHouse();
        is("text", Check.text(x, "abc"), -13);
        is("end(3)", x.end(3), 3);
        x = Check.house(TEXT);
        is("text", Check.text(x, "abc"), 4);
        is("text", Check.text(x, "abd"), 5);
        is("text", Check.text(x, "abc"), 4);
        is("text", Check.text(x, ""), 6);
        is("end(1)", x.end(1), -1);
        is("text", Check.text(x, " ~"), 7);
        is("text", Check.text(x, "a\nb"), -1);
        is("text", Check.text(x, "\u007f"), -1);
        is("text", Check.text(x, "\u00e9"), -1);
        is("text", Check.text(x, "y".repeat(1000)), 8);
        is("text", Check.text(x, "y".repeat(1001)), -1);
        x.view(0);
        is("alive(8)", x.alive(8), true);
        is("size(8)", x.size(8), 1000);
        is("kindOf(8)", x.kindOf(8), 9);
        is("text", Check.text(closed(), "a"), -13);
    }

    private static void p24() {
        ObjectHouse x = Check.house("enum A{K}class B{}enum C{L,M}");
        is("constant(12, 0)", x.constant(12, 0), 2);
        is("constant(12, 1)", x.constant(12, 1), 3);
        is("constant(10, 0)", x.constant(10, 0), 1);
        is("constant(12, 2)", x.constant(12, 2), -2);
        is("constant(12, -1)", x.constant(12, -1), -2);
        is("constant(11, 0)", x.constant(11, 0), -1);
        is("constant(4, 9)", x.constant(4, 9), -1);
        is("constant(13, 0)", x.constant(13, 0), -14);
        is("constant(10, 0)", new ObjectHouse().constant(10, 0), -13);
        is("constant(13, 0)", closed().constant(13, 0), -13);
    }

    private static void p25() {
        ObjectHouse x = Check.house(TEXT);
        is("kindOf(1)", x.kindOf(1), -13);
        x.begin();
        is("kindOf(1)", x.kindOf(1), 13);
        is("kindOf(0)", x.kindOf(0), -3);
        is("kindOf(4)", x.kindOf(4), -14);
        is("kindOf(-4)", x.kindOf(-4), -14);
        x.make(15);
        is("kindOf(4)", x.kindOf(4), 15);
    }

    private static void p26() {
        ObjectHouse x = open();
        x.array(8, 7);
        x.make(12);
        is("size(4)", x.size(4), 7);
        is("size(5)", x.size(5), -1);
        is("size(1)", x.size(1), -1);
        is("size(0)", x.size(0), -3);
        is("size(6)", x.size(6), -14);
        is("size(text)", x.size(Check.text(x, "hello")), 5);
        x.drop(1);
        is("size(4)", x.size(4), -13);
    }

    private static void p27() {
        ObjectHouse x = open();
        int t = Check.text(x, "hey");
        is("letter(t, 0)", x.letter(t, 0), 'h');
        is("letter(t, 2)", x.letter(t, 2), 'y');
        is("letter(t, 3)", x.letter(t, 3), -2);
        is("letter(t, -1)", x.letter(t, -1), -2);
        is("letter(1, 0)", x.letter(1, 0), -1);
        is("letter(0, 0)", x.letter(0, 0), -3);
        is("letter(9, 0)", x.letter(9, 0), -14);
        x.drop(1);
        is("letter(t, 0)", x.letter(t, 0), -13);
    }

    private static void p28() {
        ObjectHouse x = open();
        x.make(12);
        x.put(4, 0, 4, 42);
        is("get(4, 0)", x.get(4, 0), 42);
        is("code()", x.code(), 0);
        is("get(4, 3)", x.get(4, 3), 0);
        is("code()", x.code(), 14);
        is("get(4, -1)", x.get(4, -1), 0);
        is("code()", x.code(), 14);
        is("get(1, 9)", x.get(1, 9), 0);
        is("code()", x.code(), 1);
        is("get(0, 0)", x.get(0, 0), 0);
        is("code()", x.code(), 3);
        is("get(5, 0)", x.get(5, 0), 0);
        is("code()", x.code(), 14);
        x.array(4, 2);
        is("get(5, 0)", x.get(5, 0), 0);
        is("code()", x.code(), 1);
        x.drop(1);
        is("get(4, 0)", x.get(4, 0), 0);
        is("code()", x.code(), 13);
    }

    private static void p29() {
        ObjectHouse x = open();
        x.make(12);
        x.make(15);
        is("put(4, 0, 4, -5)", x.put(4, 0, 4, -5), 0);
        is("get(4, 0)", x.get(4, 0), -5);
        is("put(4, 2, 4, 3)", x.put(4, 2, 4, 3), 0);
        is("get(4, 2)", x.get(4, 2), Check.bits(3.0));
        is("put(4, 2, 5, big)", x.put(4, 2, 5, Long.MAX_VALUE), 0);
        is("get(4, 2)", x.get(4, 2), Check.bits(9.223372036854775807E18));
        is("put(4, 0, 5, 1)", x.put(4, 0, 5, 1), -1);
        is("put(4, 0, 0, 1)", x.put(4, 0, 0, 1), -1);
        is("put(4, 0, 8, 0)", x.put(4, 0, 8, 0), -1);
        is("put(4, 1, 4, 0)", x.put(4, 1, 4, 0), -1);
        is("put(4, 1, 8, 5)", x.put(4, 1, 8, 5), -1);
        is("put(4, 1, 8, 4)", x.put(4, 1, 8, 4), 0);
        is("put(4, 1, 8, 77)", x.put(4, 1, 8, 77), -14);
        is("put(4, 1, 8, -1)", x.put(4, 1, 8, -1), -14);
        is("put(4, 1, 8, 1 << 32 | 4)", x.put(4, 1, 8, 1L << 32 | 4), -14);
        is("put(4, 1, 12, 4)", x.put(4, 1, 12, 4), -1);
        is("put(4, 1, 99, 4)", x.put(4, 1, 99, 4), -14);
        is("put(4, 1, -1, 4)", x.put(4, 1, -1, 4), -14);
        is("put(4, 1, 8, 0)", x.put(4, 1, 8, 0), 0);
        is("put(4, 3, 99, 4)", x.put(4, 3, 99, 4), -14);
        is("put(4, 3, 4, 4)", x.put(4, 3, 4, 4), -14);
        is("put(0, 0, 4, 0)", x.put(0, 0, 4, 0), -3);
        is("put(0, 0, 99, 0)", x.put(0, 0, 99, 0), -14);
        is("put(1, 0, 4, 0)", x.put(1, 0, 4, 0), -1);
        is("put(5, 1, 8, 1)", x.put(5, 1, 8, 1), 0);
        is("put(5, 2, 6, not a number)", x.put(5, 2, 6, 0x7F800001L), -1);
        is("put(5, 6, 1, 128)", x.put(5, 6, 1, 128), -1);
        is("put(5, 6, 4, 1)", x.put(5, 6, 4, 1), -1);
        is("put(5, 5, 1, 1)", x.put(5, 5, 1, 1), -1);
        is("put(5, 7, 1, -1)", x.put(5, 7, 1, -1), 0);
        is("put(5, 3, 3, 65535)", x.put(5, 3, 3, 65535), 0);
        is("put(5, 4, 0, 1)", x.put(5, 4, 0, 1), 0);
        x.argument(4, 1);
        x.argument(8, 0);
        x.argument(8, 4);
        is("record(14)", x.record(14), 6);
        is("put(6, 0, 4, 1)", x.put(6, 0, 4, 1), -5);
        is("put(6, 0, 5, 1)", x.put(6, 0, 5, 1), -1);
        is("put(6, 3, 4, 1)", x.put(6, 3, 4, 1), -14);
        x.view(0);
        is("put(4, 0, 4, 1)", x.put(4, 0, 4, 1), -13);
    }

    private static void p30() {
        ObjectHouse x = open();
        x.array(3, 2);
        x.make(12);
        x.set(4, 1, 3, 77);
        is("element(4, 1)", x.element(4, 1), 77);
        is("code()", x.code(), 0);
        is("element(4, 2)", x.element(4, 2), 0);
        is("code()", x.code(), 2);
        is("element(4, -1)", x.element(4, -1), 0);
        is("code()", x.code(), 2);
        is("element(5, 9)", x.element(5, 9), 0);
        is("code()", x.code(), 1);
        is("element(0, 9)", x.element(0, 9), 0);
        is("code()", x.code(), 3);
        is("element(6, 9)", x.element(6, 9), 0);
        is("code()", x.code(), 14);
        x.drop(1);
        is("element(4, 1)", x.element(4, 1), 0);
        is("code()", x.code(), 13);
    }

    private static void p31() {
        ObjectHouse x = open();
        x.array(5, 2);
        x.array(12, 2);
        x.make(12);
        x.make(15);
        is("set(4, 0, 4, -1)", x.set(4, 0, 4, -1), 0);
        is("set(4, 1, 5, big)", x.set(4, 1, 5, 1L << 40), 0);
        is("element(4, 1)", x.element(4, 1), 1L << 40);
        is("set(4, 2, 4, 1)", x.set(4, 2, 4, 1), -2);
        is("set(4, -1, 4, 1)", x.set(4, -1, 4, 1), -2);
        is("set(4, 2, 6, 0)", x.set(4, 2, 6, 0), -1);
        is("set(4, 0, 16, 0)", x.set(4, 0, 16, 0), -1);
        is("set(5, 0, 8, 6)", x.set(5, 0, 8, 6), 0);
        is("set(5, 0, 8, 7)", x.set(5, 0, 8, 7), -1);
        is("set(5, 0, 8, 8)", x.set(5, 0, 8, 8), -14);
        is("set(5, 0, 99, 0)", x.set(5, 0, 99, 0), -14);
        is("set(6, 0, 4, 0)", x.set(6, 0, 4, 0), -1);
        is("set(0, 0, 4, 0)", x.set(0, 0, 4, 0), -3);
        is("set(8, 0, 4, 0)", x.set(8, 0, 4, 0), -14);
        x.view(0);
        is("set(4, 0, 4, 0)", x.set(4, 0, 4, 0), -13);
        // A transaction changes at most 60000 fields and elements that it did not create, in the whole life.
        ObjectHouse y = Check.open("class A{}");
        for (int i = 1; i <= 11; i++) {
            is("array(4, 400)", y.array(4, 400), i);
        }
        is("array(4, 1)", y.array(4, 1), 12);
        is("keep(1)", y.keep(1), 1);
        int act = 1;
        for (int n = 0; n < 150; n++) {
            if (n % 10 == 0) {
                y.drop(act);
                act = y.begin();
            }
            is("set", y.set(n % 10 + 1, 5, 4, n), 0);
            is("set", y.set(n % 10 + 1, 6, 4, n), 0);
        }
        is("set(12)", y.set(12, 0, 4, 1), -12);
        is("element(12)", y.element(12, 0), 0);
        is("copy to 11", y.copy(1, 0, 11, 0, 1), -12);
        is("copy of none", y.copy(1, 0, 11, 0, 0), 0);
        is("set in one that is changed", y.set(10, 0, 4, 1), 0);
        is("set in a new one", y.set(y.array(4, 1), 0, 4, 1), 0);
        y.crash(99999);
        y.reopen();
        y.begin();
        is("set(12)", y.set(12, 0, 4, 1), -12);
    }

    private static void p32() {
        ObjectHouse x = new ObjectHouse();
        is("code()", x.code(), 0);
        x.get(1, 0);
        is("code()", x.code(), 13);
        x = open();
        x.element(0, 0);
        is("code()", x.code(), 3);
        x.kindOf(99);
        is("code()", x.code(), 3);
        x.crash(0);
        is("code()", x.code(), 0);
    }

    private static void p33() {
        ObjectHouse x = open();
        x.array(4, 5);
        x.array(4, 3);
        x.array(5, 3);
        x.array(11, 3);
        x.array(12, 3);
        x.make(12);
        for (int i = 0; i < 5; i++) {
            x.set(4, i, 4, i + 1);
        }
        is("copy(4, 1, 5, 0, 3)", x.copy(4, 1, 5, 0, 3), 0);
        is("element(5, 0)", x.element(5, 0), 2);
        is("element(5, 2)", x.element(5, 2), 4);
        is("copy(4, 0, 4, 1, 4)", x.copy(4, 0, 4, 1, 4), 0);
        for (int i = 0; i < 5; i++) {
            is("element(4, " + i + ")", x.element(4, i), Math.max(1, i));
        }
        is("copy(4, 0, 6, 0, 1)", x.copy(4, 0, 6, 0, 1), -1);
        is("copy(4, 0, 7, 0, 1)", x.copy(4, 0, 7, 0, 1), -1);
        is("copy(9, 0, 4, 0, 1)", x.copy(9, 0, 4, 0, 1), -1);
        is("copy(4, 0, 5, 0, 4)", x.copy(4, 0, 5, 0, 4), -2);
        is("copy(4, 3, 5, 0, 3)", x.copy(4, 3, 5, 0, 3), -2);
        is("copy(4, 5, 5, 3, 0)", x.copy(4, 5, 5, 3, 0), 0);
        is("copy(4, 6, 5, 3, 0)", x.copy(4, 6, 5, 3, 0), -2);
        is("copy(4, -1, 5, 0, 1)", x.copy(4, -1, 5, 0, 1), -2);
        is("copy(4, 0, 5, 0, -1)", x.copy(4, 0, 5, 0, -1), -2);
        is("copy(4, 0, 5, 0, most)", x.copy(4, 1, 5, 0, Integer.MAX_VALUE), -2);
        is("copy(0, 0, 5, 0, 1)", x.copy(0, 0, 5, 0, 1), -3);
        is("copy(0, 0, 99, 0, 1)", x.copy(0, 0, 99, 0, 1), -14);
        // References: from P[] to C[], of which the second one does not fit.
        ObjectHouse y = Check.open("class P{}class C extends P{}");
        y.array(10, 3);
        y.array(11, 3);
        y.make(11);
        y.make(10);
        y.set(1, 0, 8, 3);
        y.set(1, 1, 8, 4);
        y.set(1, 2, 8, 3);
        is("copy(1, 0, 2, 0, 3)", y.copy(1, 0, 2, 0, 3), -6);
        is("element(2, 0)", y.element(2, 0), 3);
        is("element(2, 1)", y.element(2, 1), 0);
        is("element(2, 2)", y.element(2, 2), 0);
        is("copy(2, 0, 1, 1, 2)", y.copy(2, 0, 1, 1, 2), 0);
        is("element(1, 1)", y.element(1, 1), 3);
        is("element(1, 2)", y.element(1, 2), 0);
        y.view(0);
        is("copy", y.copy(1, 0, 2, 0, 0), -13);
        // With -6 the target counts as changed, and the source as read.
        ObjectHouse z = Check.open("class P{}class C extends P{}");
        z.array(10, 1);
        z.array(11, 1);
        z.make(10);
        z.set(1, 0, 8, 3);
        z.keep(1);
        z.begin();
        z.begin();
        z.set(2, 0, 8, 0);
        z.keep(3);
        z.use(2);
        is("copy", z.copy(1, 0, 2, 0, 1), -6);
        is("keep(2)", z.keep(2), -1);
        is("clash()", z.clash(), 2);
    }

    private static void p34() {
        ObjectHouse x = open();
        x.array(12, 2);
        x.make(12);
        x.set(4, 1, 8, 5);
        is("cloned(4)", x.cloned(4), 6);
        is("kindOf(6)", x.kindOf(6), x.kindOf(4));
        is("element(6, 1)", x.element(6, 1), 5);
        is("set(6, 1)", x.set(6, 1, 8, 0), 0);
        is("element(4, 1)", x.element(4, 1), 5);
        is("cloned(5)", x.cloned(5), -1);
        is("cloned(0)", x.cloned(0), -3);
        is("cloned(7)", x.cloned(7), -14);
        x.array(4, 0);
        is("cloned(7)", x.cloned(7), 8);
        x.array(4, 400);
        for (int i = 0; i < 48; i++) {
            x.cloned(9);
        }
        is("array(4, 393)", x.array(4, 393), 58);
        is("cloned(4)", x.cloned(4), -12);
        x.view(0);
        is("cloned(4)", x.cloned(4), -13);
    }

    private static void p35() {
        ObjectHouse x = open();
        x.make(12);
        is("root(0, 4)", x.root(0, 4), 0);
        is("root(15, 1)", x.root(15, 1), 0);
        is("root(16, 4)", x.root(16, 4), -2);
        is("root(-1, 4)", x.root(-1, 4), -2);
        is("root(16, 5)", x.root(16, 5), -14);
        is("root(0, 0)", x.root(0, 0), 0);
        is("rootAt(0)", x.rootAt(0), 0);
        x.view(0);
        is("root(0, 0)", x.root(0, 0), -13);
        // A root that is set to what it has is changed, too.
        x.begin();
        x.root(1, 0);
        x.begin();
        x.root(1, 0);
        x.keep(2);
        is("keep(3)", x.keep(3), -1);
        is("clash()", x.clash(), 0);
    }

    private static void p36() {
        ObjectHouse x = Check.house(TEXT);
        is("rootAt(0)", x.rootAt(0), -13);
        x.begin();
        x.root(7, 2);
        is("rootAt(7)", x.rootAt(7), 2);
        is("rootAt(8)", x.rootAt(8), 0);
        is("rootAt(16)", x.rootAt(16), -2);
        is("rootAt(-1)", x.rootAt(-1), -2);
        x.begin();
        is("rootAt(7)", x.rootAt(7), 0);
        x.keep(1);
        is("rootAt(7)", x.rootAt(7), 0);
        x.view(1);
        is("rootAt(7)", x.rootAt(7), 2);
    }

    private static void p37() {
        ObjectHouse x = Check.house(TEXT);
        is("alive(1)", x.alive(1), false);
        x.begin();
        is("alive(1)", x.alive(1), true);
        is("alive(0)", x.alive(0), false);
        is("alive(-1)", x.alive(-1), false);
        is("alive(4)", x.alive(4), false);
        x.make(12);
        is("alive(4)", x.alive(4), true);
        is("alive(4001)", x.alive(4001), false);
        is("alive(1)", closed().alive(1), false);
    }

    private static void p38() {
        ObjectHouse x = Check.house(TEXT);
        Check.tray(x, "f");
        x.argument(4, 1);
        is("call", x.call(1, 9), -13);
        is("end(1)", x.end(1), 1);
        is("argument", x.argument(4, 1), 2);
        x.begin();
        x.make(12);
        x.make(15);
        is("call", Check.call(x, 4, "f", 9), -1);
        is("argument", x.argument(4, 7), 1);
        is("argument", x.argument(4, 8), 2);
        is("call g", Check.call(x, 4, "g", 9), 0);
        is("answered()", x.answered(), 7);
        is("steps()", x.steps(), 0);
        x.argument(8, 4);
        is("call is", Check.call(x, 4, "is", 1), 0);
        is("answered()", x.answered(), 1);
        x.argument(8, 5);
        is("call is", Check.call(x, 4, "is", 9), -1);
        x.argument(8, 77);
        is("call is", Check.call(x, 0, "is", 9), -14);
        is("call f", Check.call(x, 0, "f", -1), -3);
        is("call f", Check.call(x, 4, "f", -1), -1);
        is("call f", Check.call(x, 4, "f", 100001), -1);
        is("call f", Check.call(x, 4, "f", 100000), 0);
        is("call f", Check.call(x, 4, "f", 0), -10);
        is("call f", Check.call(x, 1, "f", 9), -1);
        is("call f", Check.call(x, 5, "f", 9), -1);
        is("call f", Check.call(x, 99, "f", 9), -14);
        is("call nothing", Check.call(x, 4, "nothing", 9), -1);
        is("call empty", Check.call(x, 4, "", 9), -1);
        is("call bad", Check.call(x, 4, "bad", 9), -8);
        x.view(0);
        is("call f", Check.call(x, 4, "f", 9), -14);
        x.use(1);
        x.keep(1);
        x.view(1);
        is("call f", Check.call(x, 4, "f", 9), 0);
    }

    private static void p39() {
        ObjectHouse x = Check.open("class A{float f(int i){return i;}double d(float f){return -f;}byte b(){return (byte)200;}A me(){return this;}int z(int i){return 1/i;}}");
        x.make(10);
        is("answered()", x.answered(), 0);
        x.argument(4, 16777217);
        is("call f", Check.call(x, 1, "f", 9), 0);
        is("answered()", x.answered(), Check.bits(16777216.0f));
        x.argument(6, Check.bits(0.1f));
        is("call d", Check.call(x, 1, "d", 9), 0);
        is("answered()", x.answered(), Check.bits((double) -0.1f));
        is("call b", Check.call(x, 1, "b", 9), 0);
        is("answered()", x.answered(), -56);
        is("call me", Check.call(x, 1, "me", 9), 0);
        is("answered()", x.answered(), 1);
        x.argument(4, 0);
        is("call z", Check.call(x, 1, "z", 9), -8);
        is("answered()", x.answered(), 0);
        Check.call(x, 1, "me", 9);
        is("call", Check.call(x, 7, "me", 9), -14);
        is("answered()", x.answered(), 0);
        Check.call(x, 1, "me", 9);
        x.crash(0);
        is("answered()", x.answered(), 0);
    }

    private static void p40() {
        ObjectHouse x = Check.house(TEXT);
        is("ask", Check.ask(x, "from e in E give e", 9), -13);
        is("end(18)", x.end(18), 18);
        x.begin();
        is("ask", x.ask(9), 3);
        is("end(1)", x.end(1), -1);
        is("ask", Check.ask(x, "from e in E give e", -1), -1);
        is("ask", Check.ask(x, "from e in E giv e", 100001), -1);
        is("ask", Check.ask(x, "from e in E giv e", 9), -21);
        is("ask", Check.ask(x, "from e in F give e", 9), -22);
        is("ask", Check.ask(x, "from e in E give e", 2), -10);
        is("ask", Check.ask(x, "from e in E give 1/e.number", 9), -8);
        is("ask", Check.ask(x, "from e in E where e.number>0 order e.number down give e,\"new\"", 99), 2);
        is("answer(0, 0)", x.answer(0, 0), 3);
        is("answer(1, 0)", x.answer(1, 0), 2);
        is("answer(0, 1)", x.answer(0, 1), 4);
        x.view(0);
        is("text", Check.text(x, "new"), 4);
        // 1000 rows, and one more.
        ObjectHouse y = Check.open("class A{}");
        y.array(4, 100);
        y.array(4, 10);
        y.array(8, 2);
        y.set(3, 0, 8, 1);
        y.set(3, 1, 8, 2);
        is("ask", Check.ask(y, "from o in Object[] give o", 9), -21);
        y.make(10);
        String ten = "from a in A,i in ((int[])null) give i";
        is("ask", Check.ask(y, ten, 9), -3);
        ObjectHouse z = Check.open("class A{int[] x;int[] y;int[] z;}");
        z.make(10);
        z.put(1, 0, 8, z.array(4, 10));
        z.put(1, 1, 8, z.array(4, 100));
        z.put(1, 2, 8, z.array(4, 101));
        is("ask", Check.ask(z, "from a in A,i in a.x,j in a.y give i,j", 100000), 1000);
        is("steps()", z.steps(), 1 + 1 + 10 + 10 + 1000);
        is("ask", Check.ask(z, "from a in A,i in a.x,j in a.z give i,j", 100000), -12);
        is("steps()", z.steps(), 1 + 1 + 10 + 10 + 1001);
        is("answer(999, 1)", z.answer(999, 1), 0);
        is("answerKind(1)", z.answerKind(1), 4);
        ObjectHouse full = Check.open("class Z{}");
        for (int i = 0; i < 3999; i++) {
            full.make(10);
        }
        is("ask", Check.ask(full, "from z in Z where false give \"a\",\"b\"", 100000), -12);
        is("steps()", full.steps(), 0);
        is("ask", Check.ask(full, "from z in Z where false give \"a\",\"a\"", 100000), 0);
        is("text", Check.text(full, "a"), 4000);
    }

    private static void p41and42() {
        ObjectHouse x = open();
        is("answer(0, 0)", x.answer(0, 0), 0);
        is("answerKind(0)", x.answerKind(0), -1);
        is("ask", Check.ask(x, "from e in E give e,e.number,null,e==null", 99), 3);
        is("answer(2, 1)", x.answer(2, 1), 2);
        is("answer(2, 0)", x.answer(2, 0), 3);
        is("answer(3, 0)", x.answer(3, 0), 0);
        is("answer(-1, 0)", x.answer(-1, 0), 0);
        is("answer(0, 4)", x.answer(0, 4), 0);
        is("answer(0, -1)", x.answer(0, -1), 0);
        is("answerKind(0)", x.answerKind(0), 13);
        is("answerKind(1)", x.answerKind(1), 4);
        is("answerKind(2)", x.answerKind(2), 8);
        is("answerKind(3)", x.answerKind(3), 0);
        is("answerKind(4)", x.answerKind(4), -1);
        is("answerKind(-1)", x.answerKind(-1), -1);
        is("ask", Check.ask(x, "from e in E give 1/0", 99), -8);
        is("answer(2, 0)", x.answer(2, 0), 3);
        is("answerKind(0)", x.answerKind(0), 13);
        is("ask", Check.ask(x, "from e in E where false give 2.5", 99), 0);
        is("answer(0, 0)", x.answer(0, 0), 0);
        is("answerKind(0)", x.answerKind(0), 7);
        x.crash(0);
        is("answerKind(0)", x.answerKind(0), -1);
    }

    private static void p43() {
        ObjectHouse x = open();
        x.make(12);
        is("steps()", x.steps(), 0);
        Check.call(x, 4, "f", 9);
        is("steps()", x.steps(), 1);
        Check.call(x, 4, "bad", 9);
        is("steps()", x.steps(), 4);
        Check.call(x, 4, "bad", 2);
        is("steps()", x.steps(), 2);
        Check.call(x, 4, "nothing", 9);
        is("steps()", x.steps(), 0);
        Check.ask(x, "from e in E give e.number", 99);
        is("steps()", x.steps(), 6);
        Check.ask(x, "from e in E give f", 99);
        is("steps()", x.steps(), 0);
        Check.call(x, 4, "f", 9);
        x.crash(0);
        is("steps()", x.steps(), 0);
    }

    private static void p44and45() {
        ObjectHouse x = Check.open("class A{double d;int i;Object o;}class B extends A{boolean b;}");
        double[] values = {2.0, -0.0, 0.0, -1.0 / 0.0, 7.5, 2.0};
        for (int i = 0; i < values.length; i++) {
            is("make", x.make(i % 2 == 0 ? 10 : 11), i + 1);
            x.put(i + 1, 0, 7, Check.bits(values[i]));
        }
        is("found(0)", x.found(0), 0);
        is("range", x.range(10, 0, Check.bits(0.0), Check.bits(7.0)), 4);
        int[] due = {2, 3, 1, 6};
        for (int i = 0; i < 4; i++) {
            is("found(" + i + ")", x.found(i), due[i]);
        }
        is("found(4)", x.found(4), 0);
        is("found(-1)", x.found(-1), 0);
        is("range", x.range(10, 0, Check.bits(-1.0 / 0.0), Check.bits(-0.0)), 3);
        is("found(0)", x.found(0), 4);
        is("range", x.range(11, 0, Check.bits(-1.0 / 0.0), Check.bits(1.0 / 0.0)), 3);
        is("range", x.range(11, 3, 0, 1), 3);
        is("range", x.range(11, 3, 1, 0), 0);
        is("found(0)", x.found(0), 0);
        is("range", x.range(10, 1, -1, 1), 6);
        is("range", x.range(10, 1, -2147483649L, 1), -1);
        is("range", x.range(10, 0, 0, 0x7FF8000000000000L), -1);
        is("range", x.range(11, 3, 0, 2), -1);
        is("found(5)", x.found(5), 6);
        is("range", x.range(10, 2, 0, 1), -1);
        is("range", x.range(10, 3, 0, 1), -14);
        is("range", x.range(10, -1, 0, 1), -14);
        is("range", x.range(8, 0, 0, 1), -14);
        is("range", x.range(12, 0, 0, 1), -14);
        // It reads the class and each of its objects.
        x.keep(1);
        x.begin();
        x.begin();
        is("range", x.range(11, 3, 1, 1), 0);
        x.use(2);
        x.put(4, 1, 4, 1);
        x.keep(2);
        is("keep(3)", x.keep(3), -1);
        is("clash()", x.clash(), 4);
        is("range", x.range(10, 0, 0, 1), -13);
    }

    private static void p46and47() {
        ObjectHouse x = open();
        is("at(0)", x.at(0), -1);
        x.make(12);
        x.put(4, 0, 4, -2);
        x.put(4, 1, 8, 4);
        x.put(4, 2, 7, Check.bits(1.0));
        is("write(4)", x.write(4), 26);
        int[] due = {79, 71, 1, 3, 'L', 'C', ';', 1, 0, 255, 255, 255, 254, 1, 0x3f, 0xf0, 0, 0, 0, 0, 0, 0};
        for (int i = 0; i < due.length; i++) {
            is("at(" + i + ")", x.at(i), due[i]);
        }
        byte[] bytes = new byte[22];
        for (int i = 0; i < 22; i++) {
            bytes[i] = (byte) due[i];
        }
        java.util.zip.CRC32 sum = new java.util.zip.CRC32();
        sum.update(bytes);
        for (int i = 0; i < 4; i++) {
            is("at(" + (22 + i) + ")", x.at(22 + i), sum.getValue() >>> 24 - 8 * i & 255);
        }
        is("at(26)", x.at(26), -1);
        is("at(-1)", x.at(-1), -1);
        is("write(0)", x.write(0), -3);
        is("write(9)", x.write(9), -14);
        is("at(0)", x.at(0), 79);
        is("write(2)", x.write(2), 14);
        is("at(8)", x.at(8), 0);
        is("at(9)", x.at(9), 1);
        is("write(text)", x.write(Check.text(x, "hey")), 2 + 1 + 7 + 1 + 1 + 1 + 3 + 4);
        is("at(11)", x.at(11), 0);
        is("at(12)", x.at(12), 3);
        is("at(13)", x.at(13), 'h');
        // An array of 200 nulls: its length takes two bytes.
        is("array(8, 200)", x.array(8, 200), 6);
        is("write(6)", x.write(6), 2 + 1 + 10 + 1 + 1 + 2 + 200 + 4);
        is("at(15)", x.at(15), 200);
        is("at(16)", x.at(16), 1);
        // More than 20000 bytes: seven arrays of long.
        ObjectHouse y = Check.open("class A{}");
        y.array(8, 7);
        for (int i = 0; i < 7; i++) {
            y.array(5, 357);
            y.set(1, i, 8, i + 2);
        }
        is("write(1)", y.write(1), -12);
        is("at(0)", y.at(0), -1);
        y.set(1, 6, 8, 0);
        is("write(1)", y.write(1) > 17000, true);
        y.drop(1);
        is("write(1)", y.write(1), -13);
    }

    private static byte[] graph(int... bytes) {
        byte[] out = new byte[bytes.length + 4];
        java.util.zip.CRC32 sum = new java.util.zip.CRC32();
        for (int i = 0; i < bytes.length; i++) {
            out[i] = (byte) bytes[i];
            sum.update(bytes[i] & 255);
        }
        for (int i = 0; i < 4; i++) {
            out[bytes.length + i] = (byte) (sum.getValue() >>> 24 - 8 * i);
        }
        return out;
    }

    private static void readWrong(ObjectHouse x, int position, int... bytes) {
        Check.tray(x, graph(bytes));
        is("read()", x.read(), -20);
        is("place() of the read", x.place(), position);
    }

    private static void p48() {
        ObjectHouse x = Check.house("class C{C c;int n;}abstract class A{}interface I{}enum E{X,Y}record R(Text t,boolean b,double d,float f){}");
        Check.tray(x, graph(79, 71, 1, 3, 'L', 'C', ';', 1, 0, 0, 0, 0, 0, 1));
        is("read()", x.read(), -13);
        x.begin();
        is("read()", x.read(), 3);
        is("get(3, 1)", x.get(3, 1), 1);
        is("end(1)", x.end(1), -1);
        // Two objects, a text twice, a constant.
        Check.tray(x, graph(79, 71, 3, 3, 'L', 'R', ';', 6, 'L', 'T', 'e', 'x', 't', ';', 3, 'L', 'E', ';', 5,
            1, 1, 'h', 0, 3, 1, 0x40, 0, 0, 0, 0, 0, 0, 0, 0x3f, 0x80, 0, 0, 1, 1, 'h', 2, 1, 0, 0, 0, 0, 0, 0, 0, 0, 0, 0, 0, 0, 0, 0, 0));
        is("read()", x.read(), 4);
        is("kindOf(5)", x.kindOf(5), 14);
        is("get(5, 0)", x.get(5, 0), 4);
        is("get(5, 1)", x.get(5, 1), 1);
        is("get(5, 2)", x.get(5, 2), Check.bits(2.0));
        is("get(5, 3)", x.get(5, 3), Check.bits(1.0f));
        is("kindOf(6)", x.kindOf(6), 14);
        is("alive(7)", x.alive(7), false);
        is("letter(4, 0)", x.letter(4, 0), 'h');
        Check.tray(x, new byte[] {79, 71, 1, 3, 'L', 'C', ';', 1, 0, 0, 0, 0, 0, 1, 0, 0, 0, 0});
        is("read()", x.read(), -20);
        is("place()", x.place(), 14);
        Check.tray(x, new byte[3]);
        is("read()", x.read(), -20);
        is("place()", x.place(), 0);
        readWrong(x, 0, 78, 71, 1, 3);
        readWrong(x, 1, 79, 70, 1, 3);
        readWrong(x, 2, 79, 71, 0, 3);
        readWrong(x, 2, 79, 71, 101, 3);
        readWrong(x, 2, 79, 71, 0x81, 0, 3);
        readWrong(x, 2, 79, 71, 0x81, 0x81);
        readWrong(x, 4, 79, 71, 1, 3);
        readWrong(x, 4, 79, 71, 1, 3, 'L', 'C');
        readWrong(x, 4, 79, 71, 1, 3, 'L', 'D', ';', 1, 0);
        readWrong(x, 4, 79, 71, 1, 3, 'L', 'A', ';', 1, 0);
        readWrong(x, 4, 79, 71, 1, 3, 'L', 'I', ';', 1, 0);
        readWrong(x, 4, 79, 71, 1, 1, 'I', 1, 0);
        readWrong(x, 4, 79, 71, 1, 8, 'L', 'O', 'b', 'j', 'e', 'c', 't', ';', 1, 0);
        readWrong(x, 4, 79, 71, 1, 2, '[', 'I', 1, 0, 0);
        readWrong(x, 8, 79, 71, 2, 3, 'L', 'C', ';', 3, 'L', 'C', ';', 1, 0);
        readWrong(x, 7, 79, 71, 2, 3, 'L', 'C', ';');
        readWrong(x, 7, 79, 71, 1, 3, 'L', 'C', ';', 0);
        readWrong(x, 7, 79, 71, 1, 3, 'L', 'C', ';', 0xa1, 0x1f, 0);
        readWrong(x, 8, 79, 71, 1, 3, 'L', 'C', ';', 1, 1, 0, 0, 0, 0, 1);
        readWrong(x, 8, 79, 71, 1, 3, 'L', 'C', ';', 1);
        readWrong(x, 9, 79, 71, 1, 3, 'L', 'C', ';', 1, 0, 2, 0, 0, 0, 1);
        readWrong(x, 10, 79, 71, 1, 3, 'L', 'C', ';', 1, 0, 0, 0, 0, 0);
        readWrong(x, 14, 79, 71, 1, 3, 'L', 'C', ';', 1, 0, 0, 0, 0, 0, 1, 9);
        readWrong(x, 12, 79, 71, 1, 6, 'L', 'T', 'e', 'x', 't', ';', 1, 0, 0xe9, 7);
        readWrong(x, 13, 79, 71, 1, 6, 'L', 'T', 'e', 'x', 't', ';', 1, 0, 1, 7);
        readWrong(x, 13, 79, 71, 1, 6, 'L', 'T', 'e', 'x', 't', ';', 1, 0, 1);
        readWrong(x, 9, 79, 71, 1, 3, 'L', 'E', ';', 1, 0, 2);
        readWrong(x, 10, 79, 71, 1, 3, 'L', 'R', ';', 1, 0, 0, 2, 0, 0, 0, 0, 0, 0, 0, 0, 0, 0, 0, 0);
        readWrong(x, 11, 79, 71, 1, 3, 'L', 'R', ';', 1, 0, 0, 0, 0x7f, 0xf8, 0, 0, 0, 0, 0, 0, 0, 0, 0, 0);
        readWrong(x, 19, 79, 71, 1, 3, 'L', 'R', ';', 1, 0, 0, 0, 0, 0, 0, 0, 0, 0, 0, 0, 0x7f, 0xc0, 0, 0);
        // A reference that does not fit: a C where a Text is due; found only after everything else.
        readWrong(x, 33, 79, 71, 2, 3, 'L', 'C', ';', 3, 'L', 'R', ';', 2, 0, 0, 0, 0, 0, 0, 1, 1, 0, 0, 0, 0, 0, 0, 0, 0, 0, 0, 0, 0, 0, 9);
        readWrong(x, 19, 79, 71, 2, 3, 'L', 'C', ';', 3, 'L', 'R', ';', 2, 0, 0, 0, 0, 0, 0, 1, 1, 0, 0, 0, 0, 0, 0, 0, 0, 0, 0, 0, 0, 0);
        is("alive(7)", x.alive(7), false);
        x.array(4, 2);
        Check.tray(x, graph(79, 71, 1, 2, '[', 'I', 1, 0, 2, 0, 0, 0, 5, 255, 255, 255, 255));
        is("read()", x.read(), 8);
        is("element(8, 1)", x.element(8, 1), -1);
        readWrong(x, 8, 79, 71, 1, 2, '[', 'I', 1, 0, 0x91, 3, 0);
        // No room: 4000 objects.
        ObjectHouse y = Check.open("class Z{}");
        for (int i = 0; i < 3998; i++) {
            y.make(10);
        }
        Check.tray(y, graph(79, 71, 1, 3, 'L', 'Z', ';', 3, 0, 0, 0));
        is("read()", y.read(), -12);
        is("place()", y.place(), -1);
        Check.tray(y, graph(79, 71, 1, 3, 'L', 'Z', ';', 2, 0, 0));
        is("read()", y.read(), 3999);
    }

    private static void p49() {
        ObjectHouse x = Check.open("class C{C a;C b;int n;}");
        for (int i = 0; i < 6; i++) {
            x.make(10);
        }
        is("same(1, 2)", x.same(1, 2), 1);
        x.put(1, 0, 8, 3);
        is("same(1, 2)", x.same(1, 2), 0);
        x.put(2, 0, 8, 4);
        is("same(1, 2)", x.same(1, 2), 1);
        // One object met with two.
        x.put(1, 1, 8, 3);
        x.put(2, 1, 8, 5);
        is("same(1, 2)", x.same(1, 2), 0);
        is("same(2, 1)", x.same(2, 1), 0);
        x.put(2, 1, 8, 4);
        is("same(1, 2)", x.same(1, 2), 1);
        x.put(4, 2, 4, 1);
        is("same(1, 2)", x.same(1, 2), 0);
        is("same(1, 1)", x.same(1, 1), 1);
        is("same(0, 1)", x.same(0, 1), -3);
        is("same(1, 99)", x.same(1, 99), -14);
        int a = Check.text(x, "a");
        int b = Check.text(x, "b");
        is("same(a, a)", x.same(a, a), 1);
        is("same(a, b)", x.same(a, b), 0);
        is("same(a, 1)", x.same(a, 1), 0);
        int u = x.array(4, 1);
        int v = x.array(4, 2);
        int w = x.array(5, 1);
        is("same(arrays)", x.same(u, v), 0);
        is("same(arrays)", x.same(u, w), 0);
        is("same(arrays)", x.same(u, x.array(4, 1)), 1);
        // Bits are compared: -0.0 is not 0.0.
        int d = x.array(7, 1);
        int e = x.array(7, 1);
        x.set(d, 0, 7, Check.bits(-0.0));
        is("same(doubles)", x.same(d, e), 0);
        x.drop(1);
        is("same(1, 1)", x.same(1, 1), -13);
    }

    private static void rowIs(ObjectHouse x, int r, long... due) {
        for (int i = 0; i < 5; i++) {
            is("row(" + r + ", " + i + ")", x.row(r, i), due[i]);
        }
    }

    private static void p50and51() {
        ObjectHouse x = Check.open("enum E{K}class C{int n;C c;Object o;}");
        is("row(0, 0)", x.row(0, 0), 0);
        for (int i = 2; i < 8; i++) {
            is("make(11)", x.make(11), i);
        }
        int text = Check.text(x, "t");
        is("patch(2, 3)", x.patch(2, 3), 0);
        x.put(3, 0, 4, 5);
        x.put(3, 1, 8, 4);
        x.put(3, 2, 8, text);
        is("patch(2, 3)", x.patch(2, 3), 4);
        rowIs(x, 0, 1, 2, 0, 0, 5);
        rowIs(x, 1, 2, -1, 11, 0, 0);
        rowIs(x, 2, 1, 2, 1, 0, -1);
        rowIs(x, 3, 1, 2, 2, 0, text);
        is("row(4, 0)", x.row(4, 0), 0);
        is("row(-1, 0)", x.row(-1, 0), 0);
        is("row(0, 5)", x.row(0, 5), 0);
        is("row(0, -1)", x.row(0, -1), 0);
        // A partner for the object behind c; then null, a constant, and the second one of a pair.
        x.put(2, 1, 8, 5);
        x.put(4, 0, 4, 9);
        x.put(3, 2, 8, 3);
        is("patch(2, 3)", x.patch(2, 3), 3);
        rowIs(x, 0, 1, 2, 0, 0, 5);
        rowIs(x, 1, 1, 2, 2, 0, 2);
        rowIs(x, 2, 1, 5, 0, 0, 9);
        x.put(3, 1, 8, 0);
        x.put(3, 2, 8, 1);
        is("patch(2, 3)", x.patch(2, 3), 3);
        rowIs(x, 1, 1, 2, 1, 5, 0);
        rowIs(x, 2, 1, 2, 2, 0, 1);
        // New objects describe what is not 0 in their originals, one after the other.
        int array = x.array(8, 3);
        x.set(array, 1, 8, 6);
        x.put(6, 0, 4, 8);
        x.put(6, 2, 8, array);
        x.put(3, 2, 8, array);
        is("patch(7, 3)", x.patch(7, 3), 7);
        rowIs(x, 0, 1, 7, 0, 0, 5);
        rowIs(x, 1, 2, -1, x.kindOf(array), 3, 0);
        rowIs(x, 2, 1, 7, 2, 0, -1);
        rowIs(x, 3, 2, -2, 11, 0, 0);
        rowIs(x, 4, 1, -1, 1, 0, -2);
        rowIs(x, 5, 1, -2, 0, 0, 8);
        rowIs(x, 6, 1, -2, 2, 0, -1);
        is("patch(1, 1)", x.patch(1, 1), -1);
        is("patch(text)", x.patch(text, text), -1);
        is("patch(2, array)", x.patch(2, array), -1);
        is("patch(arrays)", x.patch(array, x.array(8, 2)), -1);
        is("patch(0, 2)", x.patch(0, 2), -3);
        is("patch(2, 99)", x.patch(2, 99), -14);
        is("row(6, 4)", x.row(6, 4), -1);
        x.crash(0);
        is("patch(1, 1)", x.patch(1, 1), -13);
        is("row(0, 0)", x.row(0, 0), 0);
        // 2000 rows, and one more.
        ObjectHouse y = Check.open("class A{}");
        int first = y.array(8, 6);
        int second = y.array(8, 6);
        for (int i = 0; i < 6; i++) {
            int u = y.array(4, 400);
            int v = y.array(4, 400);
            y.set(first, i, 8, u);
            y.set(second, i, 8, v);
            for (int k = 0; k < (i < 5 ? 400 : 1); k++) {
                y.set(v, k, 4, 1);
            }
        }
        is("patch", y.patch(first, second), -12);
        y.set(second, 5, 8, y.element(first, 5));
        is("patch", y.patch(first, second), 2000);
    }

    private static void p52() {
        ObjectHouse x = Check.house("class C{int n;C c;}record R(int n,C c){}");
        is("apply()", x.apply(), -13);
        x.begin();
        is("apply()", x.apply(), 0);
        for (int i = 1; i <= 4; i++) {
            x.make(10);
        }
        x.put(2, 0, 4, 7);
        x.put(2, 1, 8, 3);
        x.put(3, 1, 8, 2);
        is("patch(1, 2)", x.patch(1, 2), 4);
        is("apply()", x.apply(), 0);
        is("same(1, 2)", x.same(1, 2), 1);
        is("get(1, 1)", x.get(1, 1), 5);
        is("get(5, 1)", x.get(5, 1), 1);
        is("apply()", x.apply(), -15);
        is("get(1, 0)", x.get(1, 0), 7);
        // Records are patched, too.
        x.argument(4, 1);
        x.argument(8, 0);
        is("record(11)", x.record(11), 6);
        x.argument(4, 2);
        x.argument(8, 4);
        is("record(11)", x.record(11), 7);
        is("patch(6, 7)", x.patch(6, 7), 3);
        is("apply()", x.apply(), 0);
        is("get(6, 0)", x.get(6, 0), 2);
        is("get(6, 1)", x.get(6, 1), 8);
        // The objects must be alive where the patch is applied.
        is("patch(1, 4)", x.patch(1, 4), 2);
        x.begin();
        is("apply()", x.apply(), -15);
        x.use(1);
        is("apply()", x.apply(), 0);
        // No room for a new object.
        ObjectHouse y = Check.open("class C{int n;C c;}class Z{}");
        y.make(10);
        y.make(10);
        y.make(10);
        y.put(2, 1, 8, 3);
        y.put(2, 0, 4, 1);
        is("patch(1, 2)", y.patch(1, 2), 3);
        for (int i = 0; i < 3997; i++) {
            y.make(11);
        }
        is("apply()", y.apply(), -12);
        is("get(1, 0)", y.get(1, 0), 0);
        // A failed apply has read what it examined.
        ObjectHouse z = Check.open("class C{int n;}");
        z.make(10);
        z.make(10);
        z.make(10);
        z.put(2, 0, 4, 1);
        z.keep(1);
        z.begin();
        is("patch(1, 2)", z.patch(1, 2), 1);
        z.begin();
        z.put(1, 0, 4, 3);
        is("apply()", z.apply(), -15);
        z.keep(3);
        z.begin();
        is("apply()", z.apply(), -15);
        z.begin();
        z.put(1, 0, 4, 4);
        z.keep(5);
        is("keep(4)", z.keep(4), -1);
        is("clash()", z.clash(), 1);
    }

    private static void p53() {
        ObjectHouse x = Check.house("class C{C c;Text t;}");
        is("sweep(0)", new ObjectHouse().sweep(0), -13);
        int text = Check.text(x, "a");
        int other = Check.text(x, "b");
        x.begin();
        for (int i = 3; i <= 7; i++) {
            is("make(10)", x.make(10), i);
        }
        x.put(3, 0, 8, 4);
        x.put(4, 1, 8, text);
        x.root(0, 3);
        is("keep(1)", x.keep(1), 1);
        x.begin();
        x.root(0, 5);
        x.root(1, 7);
        is("keep(2)", x.keep(2), 2);
        is("sweep(-1)", x.sweep(-1), -14);
        is("sweep(3)", x.sweep(3), -14);
        x.view(0);
        is("sweep(1)", x.sweep(1), -1);
        x.view(1);
        is("sweep(1)", x.sweep(1), 2);
        is("alive(6)", x.alive(6), false);
        is("alive(other)", x.alive(other), false);
        is("alive(4)", x.alive(4), true);
        is("alive(text)", x.alive(text), true);
        is("view(0)", x.view(0), false);
        is("text b", Check.text(x, "b"), 8);
        // What an open transaction reads, changes or creates stays.
        x.begin();
        is("get(7, 1)", x.get(7, 1), 0);
        is("make(10)", x.make(10), 9);
        is("put(9, 0)", x.put(9, 0, 8, 3), 0);
        is("sweep(1)", x.sweep(1), 1);
        is("alive(8)", x.alive(8), false);
        is("sweep(2)", x.sweep(2), 0);
        is("view(1)", x.view(1), false);
        x.drop(3);
        is("sweep(2)", x.sweep(2), 3);
        x.view(2);
        is("alive(5)", x.alive(5), true);
        is("alive(7)", x.alive(7), true);
        is("alive(3)", x.alive(3), false);
        is("alive(4)", x.alive(4), false);
        is("alive(text)", x.alive(text), false);
        x.begin();
        is("ask", Check.ask(x, "from c in C give c", 99), 2);
        is("keep(4)", x.keep(4), 3);
        // An open transaction that began earlier.
        x.begin();
        x.begin();
        is("keep(6)", x.keep(6), 4);
        is("sweep(4)", x.sweep(4), -1);
        is("sweep(3)", x.sweep(3), 0);
        // No room in the log.
        ObjectHouse y = Check.open("class A{}");
        for (int i = 0; i < 12; i++) {
            y.array(5, 400);
        }
        y.root(0, 1);
        y.keep(1);
        is("logged()", y.logged(), 4 + 1 + 4 + 4 + 4 + 12 * (4 + 3 + 4 + 3200) + 4 + 5 + 8);
        y.begin();
        y.array(5, 170);
        is("keep(2)", y.keep(2), 2);
        is("logged()", y.logged(), 38566 + 1400);
        is("sweep(2)", y.sweep(2), -12);
        is("view(0)", y.view(0), true);
        is("view(1)", y.view(1), true);
        is("alive(2)", y.alive(2), true);
    }

    private static void p54and55() {
        ObjectHouse x = Check.open("class P{int n;Text t;}");
        is("logged()", x.logged(), 0);
        is("logAt(0)", x.logAt(0), -1);
        x.make(10);
        int text = Check.text(x, "ab");
        x.put(1, 0, 4, 258);
        x.put(1, 1, 8, text);
        x.root(3, 1);
        is("keep(1)", x.keep(1), 1);
        int[] due = {0, 0, 0, 81, 1, 0, 0, 0, 1, 0, 0, 0, 3, 0, 0, 0, 2,
            0, 0, 0, 1, 3, 'L', 'P', ';', 0, 0, 0, 2, 0, 0, 0, 0, 0, 0, 1, 2, 0, 0, 0, 0, 0, 0, 0, 2,
            0, 0, 0, 2, 6, 'L', 'T', 'e', 'x', 't', ';', 0, 0, 0, 2, 'a', 'b',
            0, 0, 0, 1, 3, 0, 0, 0, 1};
        due[3] = due.length + 8;
        recordIs(x, 0, due);
        int start = x.logged();
        is("sweep(0)", x.sweep(1), 0);
        recordIs(x, start, 0, 0, 0, 21, 2, 0, 0, 0, 1, 0, 0, 0, 0);
        start = x.logged();
        int other = Check.text(x, "c");
        int third = Check.text(x, "d");
        x.begin();
        x.root(3, 0);
        x.root(0, third);
        is("keep(2)", x.keep(2), 2);
        recordIs(x, start, 0, 0, 0, 67, 1, 0, 0, 0, 2, 0, 0, 0, 5, 0, 0, 0, 2, 0, 0, 0, 3, 6, 'L', 'T', 'e', 'x', 't', ';', 0, 0, 0, 1, 'c',
            0, 0, 0, 4, 6, 'L', 'T', 'e', 'x', 't', ';', 0, 0, 0, 1, 'd', 0, 0, 0, 2, 0, 0, 0, 0, 4, 3, 0, 0, 0, 0);
        start = x.logged();
        is("sweep(2)", x.sweep(2), 3);
        recordIs(x, start, 0, 0, 0, 33, 2, 0, 0, 0, 2, 0, 0, 0, 3, 0, 0, 0, 1, 0, 0, 0, 2, 0, 0, 0, 3);
        is("logAt(-1)", x.logAt(-1), -1);
        is("logAt(end)", x.logAt(x.logged()), -1);
    }

    /** Compares a record, and the sum behind it, with the bytes that are due. */
    private static void recordIs(ObjectHouse x, int start, int... due) {
        long sum = 0;
        due[3] = due.length + 8;
        for (int i = 0; i < due.length; i++) {
            is("logAt(" + (start + i) + ")", x.logAt(start + i), due[i]);
            sum = Long.rotateLeft(sum ^ due[i], 27) * 0x9E3779B97F4A7C15L;
        }
        for (int i = 0; i < 8; i++) {
            is("logAt, sum", x.logAt(start + due.length + i), sum >>> 56 - 8 * i & 255);
        }
        is("logged()", x.logged(), start + due.length + 8);
    }

    private static void p56() {
        ObjectHouse x = open();
        x.make(12);
        x.keep(1);
        x.begin();
        x.root(0, 4);
        x.keep(2);
        is("poke(0, 1)", x.poke(0, 1), false);
        int before = x.logAt(60);
        x.crash(9999);
        is("poke(60, 256 + 5)", x.poke(60, 256 + 5), true);
        is("logAt(60)", x.logAt(60), before ^ 5);
        is("poke(60, 5)", x.poke(60, 5), true);
        is("poke(-1, 1)", x.poke(-1, 1), false);
        is("poke(end, 1)", x.poke(x.logged(), 1), false);
        is("poke(last, 0)", x.poke(x.logged() - 1, 256), true);
        is("reopen()", x.reopen(), 2);
        is("poke(0, 1)", x.poke(0, 1), false);
        x.crash(9999);
        is("poke(last, 128)", x.poke(x.logged() - 1, 128), true);
        is("reopen()", x.reopen(), 1);
        x.view(1);
        is("alive(4)", x.alive(4), true);
        is("rootAt(0)", x.rootAt(0), 0);
        x.crash(9999);
        is("poke(3, 1)", x.poke(3, 1), true);
        is("reopen()", x.reopen(), 0);
        is("logged()", x.logged(), 0);
    }

    private static void p57() {
        ObjectHouse x = new ObjectHouse();
        is("crash(0)", x.crash(0), false);
        x = open();
        int text = Check.text(x, "gone");
        x.make(12);
        x.keep(1);
        int one = x.logged();
        x.begin();
        x.root(0, 5);
        x.keep(2);
        x.begin();
        x.argument(4, 1);
        x.range(12, 0, 0, 1);
        x.write(5);
        Check.tray(x, "keep");
        is("crash(-1)", x.crash(-1), false);
        is("crash(10)", x.crash(10), true);
        is("crash(10)", x.crash(10), false);
        is("logged()", x.logged(), one + 10);
        is("end(4)", x.end(4), 4);
        is("argument(4, 1)", x.argument(4, 1), 1);
        is("found(0)", x.found(0), 0);
        is("at(0)", x.at(0), -1);
        is("newest()", x.newest(), -1);
        is("kinds()", x.kinds(), 17);
        is("declare()", x.declare(), -13);
        is("make(12)", x.make(12), -13);
        is("alive(1)", x.alive(1), false);
        is("sweep(0)", x.sweep(0), -13);
        is("reopen()", x.reopen(), 1);
        is("logged()", x.logged(), one);
        is("begin()", x.begin(), 1);
        is("alive(5)", x.alive(5), true);
        is("rootAt(0)", x.rootAt(0), 0);
        is("alive(text)", x.alive(text), true);
        is("make(12)", x.make(12), 6);
        is("crash(most)", x.crash(Integer.MAX_VALUE), true);
        is("logged()", x.logged(), one);
        is("reopen()", x.reopen(), 1);
        is("crash(0)", x.crash(0), true);
        is("logged()", x.logged(), 0);
        is("reopen()", x.reopen(), 0);
        x.begin();
        is("make(12)", x.make(12), 4);
    }

    private static void p58() {
        ObjectHouse x = open();
        is("reopen()", x.reopen(), -13);
        // Array types are lost, and come again in the order of the records.
        int cs = Check.kind(x, "[[LC;");
        int is2 = Check.kind(x, "[[I");
        is("types", cs * 100 + is2, 18 * 100 + 19);
        int t = x.array(4, 1);
        is("kindOf", x.kindOf(t), 16);
        int u = x.array(16, 2);
        is("kindOf", x.kindOf(u), is2);
        x.set(u, 1, 8, t);
        x.set(t, 0, 4, 77);
        x.root(5, u);
        x.make(12);
        x.put(6, 2, 7, Check.bits(-2.5));
        int text = Check.text(x, "lasting");
        is("keep(1)", x.keep(1), 1);
        x.begin();
        x.make(12);
        Check.text(x, "lost");
        x.keep(9);
        is("crash", x.crash(99999), true);
        is("kinds()", x.kinds(), 17);
        is("reopen()", x.reopen(), 1);
        is("kinds()", x.kinds(), 18);
        x.view(1);
        is("kindOf(u)", x.kindOf(u), 17);
        is("element(u, 1)", x.element(u, 1), t);
        is("element(t, 0)", x.element(t, 0), 77);
        is("get(6, 2)", x.get(6, 2), Check.bits(-2.5));
        is("rootAt(5)", x.rootAt(5), u);
        is("view(0)", x.view(0), false);
        is("text", Check.text(x, "lasting"), text);
        is("text", Check.text(x, "new"), 8);
        x.begin();
        is("make(12)", x.make(12), 9);
        is("keep(1)", x.keep(1), 2);
        // What was collected does not come again.
        is("sweep(2)", x.sweep(2), 4);
        x.crash(99999);
        is("reopen()", x.reopen(), 2);
        x.view(2);
        is("alive(6)", x.alive(6), false);
        is("alive(9)", x.alive(9), false);
        is("alive(u)", x.alive(u), true);
        is("alive(t)", x.alive(t), true);
        x.begin();
        is("make(12)", x.make(12), 10);
        // Twenty times.
        ObjectHouse y = open();
        y.keep(1);
        for (int i = 0; i < 20; i++) {
            y.crash(9999);
            is("reopen()", y.reopen(), 1);
        }
        y.crash(9999);
        is("reopen()", y.reopen(), -12);
        is("newest()", y.newest(), -1);
        is("poke(0, 0)", y.poke(0, 0), true);
        is("reopen()", y.reopen(), -12);
        // The fields and elements are counted anew, without those that were discarded.
        ObjectHouse z = Check.open("class A{}");
        for (int i = 0; i < 10; i++) {
            z.array(4, 400);
        }
        z.keep(1);
        z.begin();
        for (int i = 0; i < 40; i++) {
            is("array(4, 400)", z.array(4, 400), 11 + i);
        }
        is("array(4, 1)", z.array(4, 1), -12);
        z.crash(99999);
        z.reopen();
        z.begin();
        for (int i = 0; i < 40; i++) {
            is("array(4, 400)", z.array(4, 400), 11 + i);
        }
        is("array(4, 1)", z.array(4, 1), -12);
    }
}
