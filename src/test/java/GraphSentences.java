/** The sentences of section 7 that name a boundary: graphs that are written, read, compared and patched. */
public final class GraphSentences {
    public static void main(String[] args) {
        walk();
        shortNumbers();
        written();
        mostBytes();
        mostTypes();
        checksums();
        positions();
        references();
        plainArrays();
        cutDescriptors();
        created();
        sameGraphs();
        patches();
        mostRows();
        applied();
        Check.end("GraphSentences");
    }

    /** What write answers: the bytes (without their checksum, which is checked, too). */
    private static void writes(ObjectHouse x, int t, String digits) {
        String graph = Sentence.graph(digits).replace("|", "").replace(" ", "");
        Sentence.run(x, "write(" + t + ")=" + graph.length() / 2);
        StringBuilder got = new StringBuilder();
        for (int i = 0; i < graph.length() / 2; i++) {
            got.append(String.format("%02x", x.at(i)));
        }
        if (!got.toString().equals(graph)) {
            System.out.println("written: " + got + "\n    due: " + graph);
        }
        Check.is("the graph of " + t, got.toString().equals(graph), true);
        Sentence.run(x, "at(" + graph.length() / 2 + ")=-1 at(-1)=-1");
    }

    private static void walk() {
        Sentence.of("The walk from an object numbers objects from 1 in the order in which they are met first: the object itself; then, for each object in the order of "
            + "these numbers, the objects to which it refers,"
            + " in the order of its fields or elements. Texts, constants and arrays of plain types refer to nothing.");
        ObjectHouse x = Sentence.run("`class C{C a;C b;int n;}` declare()=1 begin()=1 make(10)=1 make(10)=2 make(10)=3 make(10)=4 put(1,0,8,3)=0 put(1,1,8,2)=0 "
            + "put(2,0,8,1)=0 put(2,1,8,2)=0 put(3,0,8,4)=0 put(3,1,8,2)=0"
            + " put(1,2,4,1)=0 put(2,2,4,2)=0 put(3,2,4,3)=0 put(4,2,4,4)=0");
        writes(x, 1, "4f47 01 03'LC;' 04 00 02 03 00000001 00 04 03 00000003 00 01 03 00000002 00 00 00 00000004");
        writes(x, 4, "4f47 01 03'LC;' 01 00 00 00 00000004");
        writes(x, 2, "4f47 01 03'LC;' 04 00 02 01 00000002 00 03 01 00000001 00 04 01 00000003 00 00 00 00000004");
    }

    private static void shortNumbers() {
        Sentence.of("A short number v is written in groups of 7 bits, the lowest group first, each byte but the last one with 128 added, with as few bytes as possible "
            + "(0 is one byte 0).");
        int[] sizes = {0, 1, 127, 128, 129, 255, 256, 383, 384, 400};
        for (int n : sizes) {
            ObjectHouse x = Sentence.run("`class C{}` declare()=1 begin()=1 array(0," + n + ")=1");
            writes(x, 1, "4f47 01 02'[Z' 01 00 " + shortNumber(n) + "00".repeat(n));
            Sentence.run(x, "`" + "y".repeat(n) + "` text()=2");
            writes(x, 2, "4f47 01 06'LText;' 01 00 " + shortNumber(n) + "79".repeat(n));
        }
        ObjectHouse x = Sentence.run("`class C{}` declare()=1 begin()=1 `" + "z".repeat(1000) + "` text()=1");
        writes(x, 1, "4f47 01 06'LText;' 01 00 e807" + "7a".repeat(1000));
        // A chain of 2500 objects, whose graph 512 calls can still feed.
        x = Sentence.run("`class C{C c;}` declare()=1 begin()=1");
        StringBuilder s = new StringBuilder("4f47 01 03'LC;' " + shortNumber(2500));
        for (int i = 1; i <= 2500; i++) {
            s.append("00").append(shortNumber(i < 2500 ? i + 1 : 0));
        }
        Sentence.run(x, Sentence.graph(s.toString()) + " read()=1");
        writes(x, 1, s.toString());
        Sentence.run(x, "get(2500,0)=0 get(2499,0)=2500 get(1,0)=2 write(2500)=14");
    }

    private static String shortNumber(int v) {
        StringBuilder s = new StringBuilder();
        int rest = v;
        while (rest >= 128) {
            s.append(String.format("%02x", rest & 127 | 128));
            rest >>= 7;
        }
        return s.append(String.format("%02x", rest)).toString();
    }

    private static void written() {
        Sentence.of("boolean (0 or 1) and byte 1 byte, short and char 2, int and float 4, long and double 8 (the bits), a byte of a text 1; a reference as a short "
            + "number, the number of the object in the walk, 0 for null.");
        ObjectHouse x = Sentence.run("`class C{boolean z;byte b;short s;char c;int i;long j;float f;double d;Object o;Text t;E e;int[] a;C[] cs;}enum E{K,L}record "
            + "R(){}` declare()=3 begin()=1 make(10)=3 put(3,0,0,1)=0 put(3,1,1,-2)=0"
            + " put(3,2,2,-3)=0 put(3,3,3,65535)=0 put(3,4,4,-2147483648)=0 put(3,5,5,-2)=0 put(3,6,6,-0.0f)=0 put(3,7,7,1.5d)=0 array(4,1)=4 set(4,0,4,258)=0 "
            + "`hi`text()=5 record(12)=6 array(10,2)=7 put(3,8,8,6)=0"
            + " put(3,9,8,5)=0 put(3,10,8,2)=0 put(3,11,8,4)=0 put(3,12,8,7)=0 set(7,1,8,3)=0");
        writes(x, 3, "4f47 06 03'LC;' 03'LR;' 06'LText;' 03'LE;' 02'[I' 04'[LC;' 06"
            + " 00 01 fe fffd ffff 80000000 fffffffffffffffe 80000000 3ff8000000000000 02 03 04 05 06  01  02 02 'hi'  03 01  04 01 00000102  05 02 00 01");
        writes(x, 1, "4f47 01 03'LE;' 01 00 00");
        writes(x, 2, "4f47 01 03'LE;' 01 00 01");
        writes(x, 6, "4f47 01 03'LR;' 01 00");
        Sentence.of("Descriptors: Z B S C I J F D for the plain types in the order of their numbers; L, the name and ; for other types; [ before the descriptor of the "
            + "element type for an array type.");
        String[] plain = {"Z", "B", "S", "C", "I", "J", "F", "D"};
        int[] width = {1, 1, 2, 2, 4, 8, 4, 8};
        for (int k = 0; k < 8; k++) {
            x = Sentence.run("`class C{}` declare()=1 `" + plain[k] + "` kind()=" + k + " begin()=1 array(" + k + ",1)=1 kindOf(1)=11 `[" + plain[k] + "` kind()=11 `[["
                + plain[k] + "` kind()=12");
            writes(x, 1, "4f47 01 02'[" + plain[k] + "' 01 00 01 " + "00".repeat(width[k]));
        }
        x = Sentence.run("`class C{}` declare()=1 begin()=1 array(8,1)=1 array(9,0)=2 array(10,0)=3 array(12,0)=4 set(1,0,8,1)=0");
        writes(x, 1, "4f47 01 09'[LObject;' 01 00 01 01");
        writes(x, 2, "4f47 01 07'[LText;' 01 00 00");
        writes(x, 4, "4f47 01 08'[[LText;' 01 00 00");
        String name = "abcdefghijklmnopqrstuvwxyzABCD";
        x = Sentence.run("`class " + name + "{" + name + "[][][][][][][][] a;}` declare()=1 begin()=1 `[[[[[[[[L" + name + ";` kind()=18 array(17,0)=1");
        writes(x, 1, "4f47 01 28'[[[[[[[[L" + name + ";' 01 00 00");
        for (String s : new String[] {"", "[", "V", "L", "LC", "C;", "LC;;", "LC; ", " LC;", "Lc;", "LC[;", "[]I", "II", "L;", "[L;", "LObject", "z", "i", "Lint;", "LI;"}) {
            Sentence.run(x, "`" + s + "` kind()=-14 end(1)=-1");
        }
    }

    private static void mostBytes() {
        Sentence.of("Returns the number of bytes; -13; -14; -3; -12 if there would be more than 20000 bytes or 100 types.");
        // Graphs of an Object[8] with arrays of long: 2 + 1 + 10 + 3 + 1 + 1 + 1 + 8 bytes at first, then 3 + 8 n (2 + 8 n below 128) for each array, 4 at the end.
        for (int last : new int[] {1, 2}) {
            StringBuilder s = new StringBuilder("`class C{}` declare()=1 begin()=1 array(8,8)=1 array(0,400)=2 write(2)=414 at(413) at(414)=-1 ");
            int bytes = 2 + 1 + 10 + 3 + 3 + 1 + 1 + 1 + 8 + 4;
            int t = 3;
            for (int i = 0; i < 6; i++) {
                s.append("array(5,400)=").append(t).append(" set(1,").append(i).append(",8,").append(t).append(")=0 ");
                bytes += 3 + 3200;
                t++;
            }
            // What is missing is filled by an array of fewer than 128 longs and one of 200 to 207 booleans.
            int missing = 20000 - bytes - 2 - 3;
            int longs = (missing - 200) / 8;
            int booleans = missing - 8 * longs;
            s.append("array(5,").append(longs).append(")=").append(t).append(" set(1,6,8,").append(t).append(")=0 array(0,").append(booleans
                + last - 1).append(")=").append(t + 1).append(" set(1,7,8,").append(t + 1).append(")=0 ");
            s.append(last == 1 ? "write(1)=20000 at(0)=79 at(19999) at(20000)=-1 " : "write(1)=-12 at(0)=79 at(2)=1 at(413) at(414)=-1 write(1)=-12 write(2)=414");
            ObjectHouse x = Sentence.run(s.toString());
            Check.is("the last byte is there", x.at(last == 1 ? 19999 : 413) >= 0, true);
            Check.is("the last array has its length in two bytes", booleans >= 200 && booleans < 208, true);
        }
    }

    private static void mostTypes() {
        Sentence.of("the number of different types of its objects, as a short number, and for each of them, in the order of the walk, the length of its descriptor (1 "
            + "byte) and the descriptor;");
        // 58 classes, their arrays: an Object[] with one of each of 99 or 100 types; the array itself is one more.
        String text = Sentence.many("class A#{}", 58);
        for (int n = 99; n <= 100; n++) {
            StringBuilder s = new StringBuilder("`" + text + "` declare()=58 begin()=1 array(8,100)=1 ");
            StringBuilder due = new StringBuilder("4f47 64 09'[LObject;'");
            for (int i = 0; i < n; i++) {
                int t = i + 2;
                s.append(i < 58 ? "make(" + (10 + i) + ")" : "array(" + (10 + i - 58)
                    + ",0)").append("=").append(t).append(" set(1,").append(i).append(",8,").append(t).append(")=0 ");
                String descriptor = (i < 58 ? "" : "[") + "LA" + i % 58 + ";";
                due.append(String.format("%02x'%s'", descriptor.length(), descriptor));
            }
            if (n == 100) {
                Sentence.run(s + "write(1)=-12 at(0)=-1 set(1,99,8,2)=0 write(1) at(0)=79 at(2)=100");
                continue;
            }
            due.append("64 00 64");
            for (int i = 0; i < 100; i++) {
                due.append(i < 99 ? String.format("%02x", i + 2) : "00");
            }
            for (int i = 0; i < 99; i++) {
                due.append(String.format("%02x", i + 1)).append(i < 58 ? "" : "00");
            }
            ObjectHouse x = Sentence.run(s.toString());
            writes(x, 1, due.toString());
            Sentence.run(x, Sentence.graph(due.toString()) + " read()=101 element(101,98)=200 element(101,99)=0");
            Sentence.run(x, Sentence.graph("4f47 65 09'[LObject;'") + " read()=-20 place()=2");
        }
    }

    private static ObjectHouse reader() {
        return Sentence.run("`class C{C c;int n;}abstract class A{}interface I{}enum E{X,Y}record R(Text t,boolean z,double d,float f,byte b,char h,short s,long "
            + "l,Object[] os,C[] cs,int[] is)implements I{}"
            + "class D extends A implements I{I i;A a;}` declare()=6 begin()=1 make(15)=3");
    }

    /** The graph has its error here, and nothing is created. */
    private static void wrong(int place, String digits) {
        Sentence.run(reader(), Sentence.graph(digits) + " read()=-20 place()=" + place + " end(1)=-1 alive(4)=false make(15)=4");
    }

    private static void checksums() {
        Sentence.of("Checksum: the usual 32-bit CRC. It begins with all bits 1; for each byte, the byte is xored into the lowest 8 bits, and then 8 times the value is "
            + "shifted right by one, and, if the bit shifted out was 1,"
            + " xored with 0xEDB88320; at the end all bits are inverted.");
        // The CRC of 4f 47 00 00, of which this is no graph: the error is behind the checksum.
        Sentence.run(reader(), "|4f470000" + String.format("%08x", crc(0x4f, 0x47, 0, 0)) + "| read()=-20 place()=2 "
            + "|4f470000" + String.format("%08x", crc(0x4f, 0x47, 0, 0) ^ 1) + "| read()=-20 place()=4");
        Sentence.of("First it is examined whether there are at least 8 bytes and the checksum is right; otherwise the error is at the position 4 before the end, but "
            + "at least 0.");
        for (int n = 0; n < 12; n++) {
            Sentence.run(reader(), "|" + "00".repeat(n) + "| read()=-20 place()=" + Math.max(0, n - 4) + " end(1)=-1");
        }
        // Right checksums of fewer than 8 bytes do not help; with 8 bytes the first one is looked at.
        for (int n = 0; n < 4; n++) {
            wrong(n, "4f474f47".substring(0, 2 * n));
        }
        wrong(2, "4f47 00 00");
        wrong(0, "");
        wrong(1, "00");
        wrong(2, "0000");
        wrong(3, "000000");
        wrong(0, "00 00 00 00");
        String graph = Sentence.graph("4f47 01 03'LC;' 01 00 00 00000001").replace("|", "").replace(" ", "");
        for (int i = 0; i < graph.length() / 2; i++) {
            String other = graph.substring(0, 2 * i) + (graph.charAt(2 * i) == '0' ? "8" : "0") + graph.substring(2 * i + 1);
            Sentence.run(reader(), "|" + other + "| read()=-20 place()=14 alive(4)=false |" + graph + "| read()=4 place()=-1");
        }
        Sentence.run(reader(), "|" + graph + "00| read()=-20 place()=15 |" + graph.substring(0, graph.length() - 2) + "| read()=-20 place()=13");
    }

    private static int crc(int... bytes) {
        int value = -1;
        for (int b : bytes) {
            value ^= b;
            for (int i = 0; i < 8; i++) {
                boolean isOne = (value & 1) == 1;
                value >>>= 1;
                value = isOne ? value ^ 0xEDB88320 : value;
            }
        }
        return ~value;
    }

    private static void positions() {
        Sentence.of("the position of an error is that of the first byte of the item that is wrong: a byte that is not 79 or 71 as required;");
        wrong(0, "4e47 01 03'LC;' 01 00 00 00000001");
        wrong(0, "4746 01 03'LC;' 01 00 00 00000001");
        wrong(1, "4f46 01 03'LC;' 01 00 00 00000001");
        wrong(1, "4f4f 01 03'LC;' 01 00 00 00000001");
        Sentence.of("a short number that is not written as described, above 2147483647, or cut off;");
        for (String v : new String[] {"8100", "818000", "80808080 00", "8080808000", "8080", "ffffffff", "ffffffff08", "ffffffff7f", "ffffffffff01", "808080808001",
            "ffffffffffff"}) {
            wrong(2, "4f47 " + v);
        }
        // The greatest one is no number that is allowed here, either; of a reference it is too great.
        wrong(2, "4f47 ffffffff07");
        wrong(7, "4f47 01 03'LC;' 8100 00 00000001");
        wrong(8, "4f47 01 03'LC;' 01 8000 00 00000001");
        wrong(9, "4f47 01 03'LC;' 01 00 8000 00000001");
        wrong(9, "4f47 01 03'LC;' 01 00 8100 00000001");
        wrong(9, "4f47 01 03'LC;' 01 00 ffffffff07 00000001");
        wrong(9, "4f47 01 03'LC;' 01 00 ffffffff08 00000001");
        wrong(9, "4f47 01 03'LC;' 01 00 80");
        wrong(9, "4f47 01 03'LC;' 01 00");
        wrong(9, "4f47 01 03'LE;' 01 00 8000");
        wrong(12, "4f47 01 06'LText;' 01 00 8000");
        wrong(12, "4f47 01 06'LText;' 01 00 8100 79");
        Sentence.of("a number of types that is 0 or above 100;");
        wrong(2, "4f47 00 03'LC;' 01 00 00 00000001");
        wrong(2, "4f47 65 03'LC;' 01 00 00 00000001");
        wrong(2, "4f47 8001 03'LC;' 01 00 00 00000001");
        wrong(8, "4f47 64 03'LC;' 02'LC'");
        wrong(7, "4f47 64 03'LC;'");
        Sentence.of("a descriptor that stands for no type, an interface, an abstract class, a plain type or Object, or that occurred already;");
        for (String d : new String[] {"02'LC'", "03'LZ;'", "01'V'", "00", "03'LI;'", "03'LA;'", "08'LObject;'", "01'Z'", "01'B'", "01'S'", "01'C'", "01'I'", "01'J'",
            "01'F'", "01'D'", "04'[[LC'", "02'[J'", "03'[[I'", "04'[LA;'",
            "09'[[[[[[[[I'", "0a'[[[[[[[[[I'", "04'LC; '", "03'lC;'", "03 4c43ff", "03 4c433a"}) {
            wrong(4, "4f47 01 " + d + " 01 00 00 00000001");
        }
        wrong(8, "4f47 02 03'LC;' 03'LC;' 01 00 00 00000001");
        wrong(15, "4f47 03 03'LC;' 06'LText;' 03'LC;' 01 00 00 00000001");
        wrong(11, "4f47 03 06'LText;' 03'LI;' 03'LC;' 01 00 00 00000001");
        wrong(4, "4f47 01 04'LC;' 01 00 00 00000001");
        wrong(4, "4f47 01 ff'LC;' 01 00 00 00000001");
        wrong(4, "4f47 01 80'LC;' 01 00 00 00000001");

    }

    private static void references() {
        Sentence.of("a number of objects that is 0 or above 4000; a type that is not in the list; a length above 400, for a text above 1000; a byte of a text that is "
            + "not 32 to 126;");
        wrong(7, "4f47 01 03'LC;' 00");
        wrong(7, "4f47 01 03'LC;' 00 00 00 00000001");
        wrong(7, "4f47 01 03'LC;' a11f 00 00 00000001");
        wrong(9, "4f47 01 03'LC;' a01f");
        wrong(7, "4f47 01 03'LC;'");
        wrong(8, "4f47 01 03'LC;' 01 01 00 00000001");
        wrong(12, "4f47 02 03'LC;' 03'LE;' 01 02 00 00000001");
        wrong(8, "4f47 01 03'LC;' 01 7f 00 00000001");
        wrong(8, "4f47 01 03'LC;' 01");
        wrong(8, "4f47 01 02'[I' 01 00 9103" + "00".repeat(1604));
        wrong(12, "4f47 01 06'LText;' 01 00 e907" + "79".repeat(1001));
        for (int b = 0; b < 256; b++) {
            String graph = "4f47 01 06'LText;' 01 00 03 78" + String.format("%02x", b) + "79";
            if (b < 32 || b > 126) {
                wrong(14, graph);
            } else {
                Sentence.run(reader(), Sentence.graph(graph) + " read()=4 letter(4,1)=" + b);
            }
        }
        wrong(13, "4f47 01 06'LText;' 01 00 01");
        wrong(14, "4f47 01 06'LText;' 01 00 02 79");
        Sentence.of("a constant that does not exist; a boolean that is not 0 or 1; a value that is not-a-number; a reference greater than the number of objects; an "
            + "item that is cut off by the checksum; a byte too many.");
        wrong(9, "4f47 01 03'LE;' 01 00 02");
        wrong(9, "4f47 01 03'LE;' 01 00 7f");
        wrong(9, "4f47 01 03'LE;' 01 00");
        Sentence.run(reader(), Sentence.graph("4f47 01 03'LE;' 01 00 00") + " read()=1 " + Sentence.graph("4f47 01 03'LE;' 02 00 01 00 00") + " read()=2 make(15)=4");
        // The record: t at 9, z at 10, d at 11, f at 19, b at 23, h at 24, s at 26, l at 28, os at 36, cs at 37, is at 38.
        String[] parts = {"00", "00", "0000000000000000", "00000000", "00", "0000", "0000", "0000000000000000", "00", "00", "00"};
        Sentence.run(reader(), Sentence.graph(record(parts, -1, "")) + " read()=4 place()=-1 kindOf(4)=14");
        for (String v : new String[] {"02", "ff", "80"}) {
            wrong(10, record(parts, 1, v));
        }
        for (String v : new String[] {"7ff0000000000001", "7ff8000000000000", "fff0000000000001", "ffffffffffffffff", "7fffffffffffffff"}) {
            wrong(11, record(parts, 2, v));
        }
        for (String v : new String[] {"7f800001", "7fc00000", "ff800001", "ffffffff"}) {
            wrong(19, record(parts, 3, v));
        }
        Sentence.run(reader(), Sentence.graph(record(parts, 2, "7ff0000000000000")) + " read()=4 " + Sentence.graph(record(parts, 3, "ff800000"))
            + " read()=5 get(5,3)=0xff800000 " + Sentence.graph(record(parts, 4, "80"))
            + " read()=6 get(6,4)=-128 " + Sentence.graph(record(parts, 5, "ffff")) + " read()=7 get(7,5)=65535 " + Sentence.graph(record(parts, 6, "ffff"))
            + " read()=8 get(8,6)=-1 " + Sentence.graph(record(parts, 7, "8000000000000000"))
            + " read()=9 get(9,7)=-9223372036854775808 " + Sentence.graph(record(parts, 1, "01")) + " read()=10 get(10,1)=1");
        wrong(9, record(parts, 0, "02"));
        wrong(36, record(parts, 8, "02"));
        wrong(38, record(parts, 10, "8001"));
        // Cut off inside of each item.
        String whole = record(parts, -1, "").replace(" ", "");
        int[] starts = {9, 10, 11, 19, 23, 24, 26, 28, 36, 37, 38, 39};
        String bytes = "4f4701034c523b0100" + "00".repeat(30);
        Check.is("the record has 39 bytes", whole.replace("'LR;'", "4c523b").equals(bytes), true);
        for (int n = 9; n < 39; n++) {
            int place = 0;
            for (int start : starts) {
                place = start <= n ? start : place;
            }
            wrong(place, bytes.substring(0, 2 * n));
        }
        wrong(39, bytes + "00");
        wrong(14, "4f47 01 03'LC;' 01 00 00 00000001 00");
        wrong(10, "4f47 01 03'LC;' 01 00 00 000000");
        wrong(13, "4f47 01 02'[I' 01 00 02 00000001 000000");
        Sentence.of("If there is no such error, then, in order: a reference to an object whose type does not fit the field or array (position: the reference).");
        // C at 1 refers to the constant at 2; the same with a byte too many, which is found first.
        wrong(13, "4f47 02 03'LC;' 03'LE;' 02 00 02 00000001 01 00");
        wrong(20, "4f47 02 03'LC;' 03'LE;' 02 00 02 00000001 01 00 00");
        wrong(13, "4f47 02 03'LC;' 03'LE;' 03 00 02 00000001 01 00 00 02 00000001");
        wrong(21, "4f47 02 03'LC;' 03'LE;' 03 00 01 00000001 01 00 00 02 00000001");
        wrong(16, "4f47 02 04'[LC;' 03'LE;' 02 00 02 00 02 01 00");
        Sentence.run(reader(), Sentence.graph("4f47 02 03'LD;' 03'LC;' 02 00 01 01 01 00 00000000") + " read()=4 get(4,0)=4 get(4,1)=4");
        wrong(13, "4f47 02 03'LD;' 03'LC;' 02 00 02 01 01 00 00000000");
        wrong(14, "4f47 02 03'LD;' 03'LC;' 02 00 01 02 01 00 00000000");
        Sentence.of("It is no error if the walk from the first object does not meet the objects in this order, or not all of them.");
        Sentence.run(reader(), Sentence.graph("4f47 01 03'LC;' 03 00 00 00000001 00 01 00000002 00 02 00000003") + " read()=4 get(4,0)=0 get(5,0)=4 get(6,0)=5 "
            + "get(6,1)=3");
        Sentence.run(reader(), Sentence.graph("4f47 02 03'LC;' 03'LE;' 01 00 01 00000001") + " read()=4 get(4,0)=4");
    }

    private static String record(String[] parts, int i, String part) {
        StringBuilder s = new StringBuilder("4f47 01 03'LR;' 01 00");
        for (int k = 0; k < parts.length; k++) {
            s.append(k == i ? part : parts[k]);
        }
        return s.toString();
    }

    /** Arrays of each plain type are read as they are written. */
    private static void plainArrays() {
        Sentence.of("length above 400, for a text above 1000;");
        String[] plain = {"Z", "B", "S", "C", "I", "J", "F", "D"};
        String[] bits = {"01", "80", "8001", "8001", "80000001", "8000000000000001", "80000001", "8000000000000001"};
        String[] due = {"1", "-128", "-32767", "32769", "-2147483647", "-9223372036854775807", "0x80000001", "-9223372036854775807"};
        for (int k = 0; k < 8; k++) {
            String graph = "4f47 01 02'[" + plain[k] + "' 01 00 02 " + bits[k] + "00".repeat(bits[k].length() / 2);
            ObjectHouse x = Sentence.run("`class C{}` declare()=1 "
                + "begin()=1 " + Sentence.graph(graph) + " read()=-20 place()=4 `[" + plain[k] + "`kind()=11 " + Sentence.graph(graph) + " read()=1 kindOf(1)=11 "
                + "size(1)=2 element(1,0)=" + due[k]
                + " element(1,1)=0");
            writes(x, 1, graph);
            String most = "4f47 01 02'[" + plain[k] + "' 01 00 9003" + bits[k].repeat(400);
            Sentence.run(x, Sentence.graph(most) + " read()=2 size(2)=400 "
                + "element(2,399)=" + due[k] + " " + Sentence.graph(most.replace("9003", "9103") + bits[k]) + " read()=-20 place()=8");
        }
    }

    /** A descriptor is cut off, though the checksum behind it would complete it. */
    private static void cutDescriptors() {
        Sentence.of("an item that is cut off by the checksum;");
        int found = 0;
        String[] first = {"", "03'LC;'", "03'LE;'", "03'LR;'", "03'LC;' 03'LE;'", "03'LE;' 03'LR;'", "03'LR;' 03'LC;'", "06'LText;'", "03'LD;'", "06'LText;' 03'LD;'"};
        String[] types = {"LC", "LE", "LR", "LD"};
        for (String before : first) {
            for (String type : types) {
                for (int n = 1; n <= 100; n++) {
                    String graph = "4f47" + String.format("%02x", n) + before + "03'" + type + "'";
                    String bytes = Sentence.graph(graph).replace("|", "");
                    if (bytes.substring(bytes.length() - 8).startsWith("3b") && !before.contains("'" + type + ";'")) {
                        found++;
                        wrong(Sentence.digits(graph).length() / 2 - 2, graph);
                    }
                }
            }
        }
        Check.is("there are such graphs", found > 3, true);
    }

    private static void created() {
        Sentence.of("If there is an error, nothing is created. Texts become the unique texts, constants the existing ones.");
        ObjectHouse x = reader();
        Sentence.run(x, Sentence.graph("4f47 01 06'LText;' 02 00 01'q' 00 01 00") + " read()=-20 `q`text()=4 " + Sentence.graph("4f47 01 06'LText;' 03 00 01'q' 00 "
            + "01'r' 00 01'q'") + " read()=4 alive(5)=true alive(6)=false `r`text()=5 "
            + Sentence.graph("4f47 02 03'LC;' 06'LText;' 03 00 00 00000007 01 01'r' 00 01 00000008") + " read()=6 kindOf(7)=10 get(7,0)=6 get(7,1)=8 "
            + "alive(8)=false " + Sentence.graph("4f47 01 06'LText;' 01 00 00") + " read()=8 size(8)=0");
        Sentence.run(x, Sentence.graph("4f47 02 03'LE;' 03'LD;' 02 00 01 01 00 00") + " read()=2 kindOf(9)=15 alive(10)=false");
        Sentence.run(x, Sentence.graph("4f47 02 02'[I' 04'[LC;' 02 00 00 01 9003" + "00".repeat(400)) + " read()=10 size(10)=0 size(11)=400 element(11,399)=0 "
            + "view(0)=true " + Sentence.graph("4f47 01 03'LE;' 01 00 00") + " read()=-13 end(13)=13");
    }

    private static void sameGraphs() {
        Sentence.of("for each pair that is met the types and sizes are equal, plain values have equal bits, null is met with null, each object of the one graph is met "
            + "with one object of the other one only,"
            + " and texts and constants are met with themselves.");
        // 3 to 6 are C, 7 and 8 are D, 9 and 10 int[2] and int[3], 11 long[2], 12 and 13 texts.
        String start = "`class C{C a;C b;Object o;double d;int n;}class D extends C{}enum E{K,L}` declare()=3 begin()=1 make(10)=3 make(10)=4 make(10)=5 make(10)=6 "
            + "make(11)=7 make(11)=8 array(4,2)=9 array(4,3)=10 array(5,2)=11"
            + " `t`text()=12 `u`text()=13 ";
        Sentence.run(start + "same(3,3)=1 same(3,4)=1 same(3,7)=0 same(7,3)=0 same(7,8)=1 same(9,9)=1 same(9,10)=0 same(10,9)=0 same(9,11)=0 cloned(9)=14 same(9,14)=1 "
            + "same(12,12)=1 same(12,13)=0 same(1,1)=1 same(1,2)=0 same(1,12)=0"
            + " same(12,3)=0 set(14,1,4,1)=0 same(9,14)=0 same(14,9)=0 set(9,1,4,1)=0 same(9,14)=1");
        Sentence.run(start + "put(3,4,4,1)=0 same(3,4)=0 put(4,4,4,1)=0 same(3,4)=1 put(3,3,7,-0.0d)=0 same(3,4)=0 put(4,3,7,-0.0d)=0 same(3,4)=1 put(3,3,7,0.0d)=0 "
            + "same(4,3)=0");
        Sentence.run(start + "put(3,0,8,5)=0 same(3,4)=0 same(4,3)=0 put(4,0,8,6)=0 same(3,4)=1 put(4,0,8,5)=0 same(3,4)=1 put(4,0,8,4)=0 same(3,4)=0 put(3,0,8,3)=0 "
            + "same(3,4)=1 put(4,0,8,3)=0 same(3,4)=0 same(4,3)=0");
        Sentence.run(start + "put(3,2,8,12)=0 same(3,4)=0 put(4,2,8,13)=0 same(3,4)=0 put(4,2,8,12)=0 same(3,4)=1 put(4,2,8,1)=0 same(3,4)=0 put(3,2,8,1)=0 same(3,4)=1 "
            + "put(3,2,8,2)=0 same(3,4)=0 put(3,2,8,9)=0 put(4,2,8,10)=0 same(3,4)=0"
            + " put(4,2,8,11)=0 same(3,4)=0 put(4,2,8,9)=0 same(3,4)=1 put(4,2,8,5)=0 same(3,4)=0");
        // One object of the one graph, two of the other one: both ways.
        Sentence.run(start + "put(3,0,8,5)=0 put(3,1,8,5)=0 put(4,0,8,5)=0 put(4,1,8,6)=0 same(3,4)=0 same(4,3)=0 put(4,1,8,5)=0 same(3,4)=1 put(3,1,8,6)=0 "
            + "put(4,1,8,6)=0 same(3,4)=1");
        // A cycle of two and one of one.
        Sentence.run(start + "put(3,0,8,4)=0 put(4,0,8,3)=0 put(5,0,8,5)=0 same(3,5)=0 same(5,3)=0 same(3,4)=1 put(5,0,8,6)=0 put(6,0,8,5)=0 same(3,5)=1 same(3,6)=1 "
            + "put(6,4,4,9)=0 same(3,5)=0");
    }

    private static void rowsAre(ObjectHouse x, String call, String... rows) {
        Sentence.run(x, call + "=" + rows.length + " row(" + rows.length + ",0)=0 row(-1,0)=0");
        for (int r = 0; r < rows.length; r++) {
            String[] parts = rows[r].trim().split(" +");
            StringBuilder s = new StringBuilder("row(" + r + ",0)=" + (parts[0].equals("SET") ? 1 : 2) + " row(" + r + ",-1)=0 row(" + r + ",5)=0 ");
            for (int i = 1; i < 5; i++) {
                s.append("row(").append(r).append(",").append(i).append(")=").append(i < parts.length ? parts[i] : "0").append(' ');
            }
            Sentence.run(x, s.toString());
        }
    }

    private static void patches() {
        Sentence.of("Pairs of objects are created and processed in order; (t, u) is the first one. For a pair (x, y), each field or element k in order is processed. If "
            + "it is plain: if the values differ, a row SET x k old new.");
        // 3 to 8 are C, 9 is D, 10 Object[2], 11 Object[2], 12 Object[3], 13 text.
        String start = "`class C{C a;Object o;double d;int n;}class D extends C{}enum E{K,L}` declare()=3 begin()=1 make(10)=3 make(10)=4 make(10)=5 make(10)=6 "
            + "make(10)=7 make(10)=8 make(11)=9 array(8,2)=10 array(8,2)=11 array(8,3)=12"
            + " `t`text()=13 ";
        rowsAre(Sentence.run(start), "patch(3,4)");
        rowsAre(Sentence.run(start), "patch(3,3)");
        rowsAre(Sentence.run(start + "put(3,3,4,-5)=0 put(4,3,4,7)=0 put(4,2,7,-0.0d)=0"), "patch(3,4)", "SET 3 2 0 -9223372036854775808", "SET 3 3 -5 7");
        Sentence.of("both null, or a and b are a pair (a its first one, b its second one): nothing. b is null: SET x k a 0. b is a text or constant: nothing if a is "
            + "the same object, else SET x k a b.");
        rowsAre(Sentence.run(start + "put(3,0,8,5)=0"), "patch(3,4)", "SET 3 0 5 0");
        rowsAre(Sentence.run(start + "put(3,1,8,13)=0"), "patch(3,4)", "SET 3 1 13 0");
        rowsAre(Sentence.run(start + "put(4,1,8,13)=0"), "patch(3,4)", "SET 3 1 0 13");
        rowsAre(Sentence.run(start + "put(3,1,8,13)=0 put(4,1,8,13)=0"), "patch(3,4)");
        rowsAre(Sentence.run(start + "put(3,1,8,13)=0 put(4,1,8,2)=0"), "patch(3,4)", "SET 3 1 13 2");
        rowsAre(Sentence.run(start + "put(3,1,8,5)=0 put(4,1,8,1)=0"), "patch(3,4)", "SET 3 1 5 1");
        rowsAre(Sentence.run(start + "put(3,0,8,3)=0 put(4,0,8,4)=0"), "patch(3,4)");
        rowsAre(Sentence.run(start + "put(3,0,8,5)=0 put(3,1,8,5)=0 put(4,0,8,6)=0 put(4,1,8,6)=0"), "patch(3,4)");
        Sentence.of("b is the second one of a pair (its first one is c), or has been created newly as -j: SET x k a c, or SET x k a -j.");
        rowsAre(Sentence.run(start + "put(4,0,8,4)=0"), "patch(3,4)", "SET 3 0 0 3");
        rowsAre(Sentence.run(start + "put(3,0,8,5)=0 put(4,0,8,4)=0"), "patch(3,4)", "SET 3 0 5 3");
        rowsAre(Sentence.run(start + "put(4,0,8,5)=0 put(4,1,8,5)=0"), "patch(3,4)", "NEW -1 10 0", "SET 3 0 0 -1", "SET 3 1 0 -1");
        rowsAre(Sentence.run(start + "put(3,0,8,5)=0 put(3,1,8,6)=0 put(4,0,8,7)=0 put(4,1,8,7)=0"), "patch(3,4)", "SET 3 1 6 5");
        Sentence.of("Otherwise, if a is not null, no text or constant and the first one of no pair, and has the type of b and, for arrays, the length of b: a and b "
            + "become a pair."
            + " Otherwise b is created newly: a row NEW -j type length (j is 1 for the first one, then 2, and so on; the length is 0 unless it is an array), then SET "
            + "x k a -j.");
        rowsAre(Sentence.run(start + "put(3,0,8,5)=0 put(4,0,8,6)=0 put(6,3,4,8)=0"), "patch(3,4)", "SET 5 3 0 8");
        rowsAre(Sentence.run(start + "put(3,1,8,9)=0 put(4,1,8,6)=0"), "patch(3,4)", "NEW -1 10 0", "SET 3 1 9 -1");
        rowsAre(Sentence.run(start + "put(3,1,8,6)=0 put(4,1,8,9)=0"), "patch(3,4)", "NEW -1 11 0", "SET 3 1 6 -1");
        rowsAre(Sentence.run(start + "put(3,1,8,13)=0 put(4,1,8,6)=0"), "patch(3,4)", "NEW -1 10 0", "SET 3 1 13 -1");
        rowsAre(Sentence.run(start + "put(3,1,8,1)=0 put(4,1,8,6)=0"), "patch(3,4)", "NEW -1 10 0", "SET 3 1 1 -1");
        rowsAre(Sentence.run(start + "put(3,1,8,10)=0 put(4,1,8,11)=0"), "patch(3,4)");
        rowsAre(Sentence.run(start + "put(3,1,8,10)=0 put(4,1,8,12)=0"), "patch(3,4)", "NEW -1 13 3", "SET 3 1 10 -1");
        rowsAre(Sentence.run(start + "put(3,1,8,10)=0 put(4,1,8,6)=0"), "patch(3,4)", "NEW -1 10 0", "SET 3 1 10 -1");
        rowsAre(Sentence.run(start + "put(3,0,8,3)=0 put(4,0,8,6)=0"), "patch(3,4)", "NEW -1 10 0", "SET 3 0 3 -1");
        rowsAre(Sentence.run(start + "put(3,0,8,5)=0 put(3,1,8,5)=0 put(4,0,8,6)=0 put(4,1,8,7)=0"), "patch(3,4)", "NEW -1 10 0", "SET 3 1 5 -1");
        rowsAre(Sentence.run(start + "array(8,0)=14 put(4,1,8,14)=0"), "patch(3,4)", "NEW -1 13 0", "SET 3 1 0 -1");
        // An object that is both in the first and in the second graph.
        rowsAre(Sentence.run(start + "put(3,0,8,4)=0 put(4,0,8,5)=0"), "patch(3,4)", "SET 4 0 5 0");
        rowsAre(Sentence.run(start + "put(3,0,8,4)=0 put(4,0,8,3)=0"), "patch(3,4)");
        Sentence.of("After all pairs, each new object -j is processed in order: for each k whose bits in the original are not 0, in order: for a plain value SET -j k 0 "
            + "value; a reference b is processed as above,"
            + " with -j in place of x, and null as a.");
        rowsAre(Sentence.run(start + "put(4,0,8,5)=0 put(4,1,8,12)=0 put(5,0,8,6)=0 put(5,2,7,-0.0d)=0 put(5,3,4,-1)=0 set(12,0,8,4)=0 set(12,1,8,5)=0 set(12,2,8,13)=0 "
            + "put(6,1,8,1)=0 put(6,0,8,6)=0 put(4,3,4,2)=0"), "patch(3,4)",
            "NEW -1 10 0", "SET 3 0 0 -1", "NEW -2 13 3", "SET 3 1 0 -2", "SET 3 3 0 2", "NEW -3 10 0", "SET -1 0 0 -3", "SET -1 2 0 -9223372036854775808",
            "SET -1 3 0 -1", "SET -2 0 0 3", "SET -2 1 0 -1", "SET -2 2 0 13",
            "SET -3 0 0 -3", "SET -3 1 0 1");
        Sentence.of("-1 if their types or, for arrays, lengths are different, or they are texts or constants;");
        Sentence.run(start + "patch(3,9)=-1 patch(9,3)=-1 patch(10,12)=-1 patch(12,10)=-1 patch(10,11)=0 patch(13,13)=-1 patch(1,1)=-1 patch(1,2)=-1 patch(3,13)=-1 "
            + "patch(3,10)=-1 patch(0,3)=-3 patch(3,0)=-3 patch(0,14)=-14 patch(14,0)=-14");
    }

    private static void mostRows() {
        Sentence.of("A patch has at most 2000 rows, otherwise code 12.");
        // Five arrays of 400 booleans, all of them different: 2000 rows; with the int of the C one more.
        StringBuilder s = new StringBuilder("`class C{Object[] a;int n;}` declare()=1 begin()=1 make(10)=1 make(10)=2 array(8,5)=3 array(8,5)=4 put(1,0,8,3)=0 "
            + "put(2,0,8,4)=0 array(0,400)=5 set(5,0,0,1)=0 ");
        for (int n = 1; n < 400; n *= 2) {
            s.append("copy(5,0,5,").append(n).append(",").append(Math.min(n, 400 - n)).append(")=0 ");
        }
        for (int i = 0; i < 5; i++) {
            s.append("array(0,400)=").append(6 + 2 * i).append(" set(3,").append(i).append(",8,").append(6 + 2 * i).append(")=0 cloned(5)=").append(7
                + 2 * i).append(" set(4,").append(i).append(",8,").append(7 + 2 * i).append(")=0 ");
        }
        Sentence.run(s + "patch(1,2)=2000 row(0,1)=6 row(1999,1)=14 row(1999,2)=399 row(1999,4)=1 row(2000,0)=0 put(2,1,4,9)=0 patch(1,2)=-12 row(1999,0)=1 row(0,2)=0 "
            + "apply()=0 same(1,2)=0 put(2,1,4,0)=0 same(1,2)=1 patch(1,2)=0 row(0,0)=0");
        Sentence.run(s + "set(15,3,0,0)=0 put(2,1,4,9)=0 patch(1,2)=2000 row(0,1)=1 row(0,4)=9 set(15,3,0,1)=0 patch(1,2)=-12");
        s = new StringBuilder("`class C{}` declare()=1 begin()=1 array(8,3)=1 array(8,3)=2 array(8,400)=3 array(8,400)=4 array(8,200)=5 set(2,0,8,3)=0 set(2,1,8,4)=0 "
            + "set(2,2,8,5)=0 ");
        StringBuilder graph = new StringBuilder("4f47 02 09'[LObject;' 03'LC;' " + shortNumber(1001) + "00 9003");
        for (int i = 0; i < 400; i++) {
            graph.append(shortNumber(i + 2));
        }
        for (int i = 0; i < 1000; i++) {
            graph.append("01");
        }
        // 6 is an Object[400] with new objects of class C behind it, of which the patch creates 400: 2 rows for itself, then 800.
        Sentence.run(s + Sentence.graph(graph.toString()) + " read()=6 set(2,0,8,6)=0 patch(1,2)=806 copy(6,0,3,0,400)=0 set(2,1,8,3)=0 patch(1,2)=1206 row(0,3)=400 "
            + "row(0,1)=-1 row(1205,1)=-2 row(1205,4)=-403 apply()=0 patch(1,2)=0");
    }

    private static void applied() {
        Sentence.of("if, for each row SET x k old new with x greater than 0, x is alive, has a field or element k, and the old value is there, and all objects greater "
            + "than 0 to which rows refer are alive,"
            + " all rows are executed in order (NEW creates an object); otherwise nothing changes. References are compared by their numbers.");
        String start = "`class C{C a;int n;Text t;}record R(int n,C c){}` declare()=2 begin()=1 apply()=0 make(10)=1 make(10)=2 make(10)=3 ";
        Sentence.run(start + "put(2,0,8,3)=0 put(2,1,4,7)=0 put(3,0,8,2)=0 patch(1,2)=4 apply()=0 get(1,0)=4 get(1,1)=7 get(4,0)=1 kindOf(4)=10 alive(5)=false "
            + "same(1,2)=1 apply()=-15 get(1,0)=4 alive(5)=false put(1,0,8,0)=0 apply()=-15"
            + " put(1,1,4,0)=0 apply()=0 get(1,0)=5 get(5,0)=1");
        // An old reference must be the same object, not only an equal one.
        Sentence.run(start + "put(1,0,8,2)=0 patch(1,3)=1 row(0,3)=2 put(1,0,8,3)=0 apply()=-15 get(1,0)=3 put(1,0,8,2)=0 apply()=0 get(1,0)=0 apply()=-15");
        // The last row decides, too: nothing has changed.
        Sentence.run(start + "put(2,0,8,3)=0 put(2,1,4,7)=0 `t`text()=4 put(2,2,8,4)=0 patch(1,2)=4 row(1,2)=0 row(3,2)=2 put(1,2,8,4)=0 apply()=-15 get(1,0)=0 "
            + "get(1,1)=0 alive(5)=false");
        // Where x is not alive, or an object to which a row refers.
        Sentence.run(start + "put(2,1,4,7)=0 patch(1,2)=1 begin()=2 apply()=-15 use(1)=true apply()=0 drop(1)=true use(2)=true apply()=-15 view(0)=true apply()=-13");
        Sentence.run(start + "root(0,1)=0 root(1,2)=0 keep(1)=1 begin()=2 `t`text()=4 put(2,2,8,4)=0 patch(1,2)=1 drop(2)=true begin()=3 apply()=0 get(1,2)=4 "
            + "put(1,2,8,0)=0 apply()=0 drop(3)=true sweep(1)=2 begin()=4 apply()=-15"
            + " `t`text()=5 apply()=-15");
        // A new object with a plain value that is no object, and a reference to a text.
        String fresh = "`class C{C a;int n;Text t;}` declare()=1 `t`text()=1 begin()=1 make(10)=2 root(0,2)=0 keep(1)=1 begin()=2 make(10)=3 make(10)=4 put(3,0,8,4)=0 "
            + "put(4,1,4,999)=0 put(3,1,4,-3)=0 ";
        Sentence.run(fresh + "put(4,2,8,1)=0 patch(2,3)=5 row(0,0)=2 row(4,4)=1 drop(2)=true begin()=3 apply()=0 get(2,1)=-3 get(2,0)=5 get(5,1)=999 get(5,2)=1");
        Sentence.run(fresh + "put(4,2,8,1)=0 patch(2,3)=5 drop(2)=true sweep(1)=1 begin()=3 apply()=-15 get(2,0)=0 get(2,1)=0 make(10)=5");
        Sentence.run(fresh + "put(3,2,8,1)=0 patch(2,3)=5 row(3,4)=1 drop(2)=true sweep(1)=1 begin()=3 apply()=-15 get(2,0)=0");
        Sentence.run(fresh + "put(4,1,4,-1)=0 patch(2,3)=4 drop(2)=true sweep(1)=1 begin()=3 apply()=0 get(2,1)=-3 get(5,1)=-1 get(5,2)=0");
        Sentence.run("`class C{Object o;}` declare()=1 `t`text()=1 begin()=1 make(10)=2 root(0,2)=0 keep(1)=1 begin()=2 make(10)=3 put(3,0,8,1)=0 patch(2,3)=1 "
            + "drop(2)=true sweep(1)=1 begin()=3 apply()=-15 get(2,0)=0");
        // Records; the patch of an object with itself.
        Sentence.run(start + "argument(4,1)=1 argument(8,1)=2 record(11)=4 argument(4,2)=1 argument(8,0)=2 record(11)=5 patch(4,5)=2 apply()=0 get(4,0)=2 get(4,1)=0 "
            + "put(4,0,4,1)=-5 same(4,5)=1 patch(4,4)=0 apply()=0 patch(4,0)=-3 apply()=0");
        Sentence.run(start + "put(2,1,4,7)=0 patch(1,2)=1 patch(1,9)=-14 patch(1,0)=-3 row(0,4)=7 apply()=0 get(1,1)=7 crash(0)=true row(0,0)=0 reopen()=0 begin()=1 "
            + "apply()=0");
    }
}
