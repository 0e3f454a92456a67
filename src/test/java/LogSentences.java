/** The sentences of section 9 that name a boundary: the log, crashes, openings. */
public final class LogSentences {
    public static void main(String[] args) {
        records();
        newTexts();
        collections();
        sums();
        mostBytes();
        crashes();
        lost();
        openings();
        damages();
        restoredObjects();
        nextNumbers();
        elements();
        arrayTypes();
        mostOpenings();
        Check.end("LogSentences");
    }

    /** Compares a record (without its length and sum) with the log from a position on, and tells where it ends. */
    private static int recordIs(ObjectHouse x, int start, String digits) {
        String all = Sentence.digits(digits);
        int length = all.length() / 2 + 12;
        String due = String.format("%08x", length) + all;
        long sum = 0;
        for (int i = 0; i < due.length() / 2; i++) {
            sum = Long.rotateLeft(sum ^ Integer.parseInt(due.substring(2 * i, 2 * i + 2), 16), 27) * 0x9E3779B97F4A7C15L;
        }
        due += String.format("%016x", sum);
        StringBuilder got = new StringBuilder();
        for (int i = start; i < start + length; i++) {
            int b = x.logAt(i);
            got.append(b < 0 ? "--" : String.format("%02x", b));
        }
        if (!got.toString().equals(due)) {
            System.out.println("record: " + got + "\n   due: " + due);
        }
        Check.is("a record", got.toString().equals(due), true);
        return start + length;
    }

    private static void logEnds(ObjectHouse x, int length) {
        Sentence.run(x, "logged()=" + length + " logAt(" + length + ")=-1 logAt(-1)=-1 logAt(2147483647)=-1 logAt(-2147483648)=-1");
    }

    private static void records() {
        Sentence.of("The log is a sequence of records, one for each commit and one for each collection. Numbers have 4 bytes, with the highest byte first, unless "
            + "something else is said.");
        ObjectHouse x = Sentence.run("`class C{C c;int n;double d;}enum E{K}record R(byte b,char h,Text t){}` declare()=3 logged()=0 logAt(0)=-1 begin()=1 make(10)=2 "
            + "put(2,0,8,2)=0 put(2,1,4,-2)=0 put(2,2,7,-0.0d)=0 `hi~`text()=3"
            + " argument(1,-1)=1 argument(3,65535)=2 argument(8,3)=3 record(12)=4 array(1,3)=5 set(5,2,1,-128)=0 array(13,0)=6 make(10)=7 root(3,5)=0 root(15,0)=0 "
            + "root(0,1)=0 keep(1)=1");
        int end = recordIs(x, 0, "01 00000001 00000008 00000006"
            + " 00000002 03'LC;' 00000003 0000000000000002 fffffffffffffffe 8000000000000000"
            + " 00000003 06'LText;' 00000003 'hi~'"
            + " 00000004 03'LR;' 00000003 ffffffffffffffff 000000000000ffff 0000000000000003"
            + " 00000005 02'[B' 00000003 0000000000000000 0000000000000000 ffffffffffffff80"
            + " 00000006 03'[[B' 00000000"
            + " 00000007 03'LC;' 00000003 0000000000000000 0000000000000000 0000000000000000"
            + " 00000003 00 00000001 03 00000005 0f 00000000");
        logEnds(x, end);
        // A commit of nothing, one of a change to the same value, one with an object that was discarded in between.
        Sentence.run(x, "begin()=2 keep(2)=2 begin()=3 get(2,1)=-2 rootAt(3)=5 put(2,1,4,-2)=0 root(3,5)=0 keep(3)=3 begin()=4 make(10)=8 begin()=5 make(10)=9 "
            + "drop(4)=true set(5,0,1,1)=0 keep(5)=4");
        end = recordIs(x, end, "01 00000002 00000008 00000000 00000000");
        end = recordIs(x, end, "01 00000003 00000008 00000001 00000002 03'LC;' 00000003 0000000000000002 fffffffffffffffe 8000000000000000 00000001 03 00000005");
        end = recordIs(x, end, "01 00000004 0000000a 00000002 00000005 02'[B' 00000003 0000000000000001 0000000000000000 ffffffffffffff80"
            + " 00000009 03'LC;' 00000003 0000000000000000 0000000000000000 0000000000000000 00000000");
        logEnds(x, end);
    }

    private static void newTexts() {
        Sentence.of("the number of objects that the transaction changed or created, plus the texts created since the record of the commit before that have not been "
            + "collected;");
        ObjectHouse x = Sentence.run("`class C{Text f(){return \"k\";}int n;}` declare()=1 `a`text()=2 begin()=1 `b`text()=3 make(10)=4 begin()=2 `c`text()=5 "
            + "drop(2)=true `d`text()=6 sweep(0)=4 `e`text()=7 ``text()=8 keep(1)=1");
        int end = recordIs(x, 0, "02 00000000 00000004 00000002 00000003 00000005 00000006");
        end = recordIs(x, end, "01 00000001 00000009 00000003 00000004 03'LC;' 00000001 0000000000000000 00000007 06'LText;' 00000001 'e' 00000008 06'LText;' "
            + "00000000 00000000");
        // A commit that conflicts, or has no room, leaves the texts for the next one.
        Sentence.run(x, "begin()=3 `f`text()=9 rootAt(0)=0 begin()=4 root(0,4)=0 keep(4)=2 keep(3)=-1 `g`text()=10 keep(3)=-1 begin()=5 keep(5)=3 begin()=6 keep(6)=4");
        end = recordIs(x, end, "01 00000002 0000000a 00000001 00000009 06'LText;' 00000001 'f' 00000001 00 00000004");
        end = recordIs(x, end, "01 00000003 0000000b 00000001 0000000a 06'LText;' 00000001 'g' 00000000");
        end = recordIs(x, end, "01 00000004 0000000b 00000000 00000000");
        Sentence.run(x, "`from c in C give \"q\"` ask(9)=-13 begin()=7 `from c in C give \"q\"` ask(9)=1 drop(7)=true begin()=8 keep(8)=5");
        end = recordIs(x, end, "01 00000005 0000000c 00000001 0000000b 06'LText;' 00000001 'q' 00000000");
        logEnds(x, end);
        // After an opening the texts that are in the log are not new; those behind a cut are.
        Sentence.run("`class C{}` declare()=1 begin()=1 keep(1)=1 " + "begin()=2 make(10)=1 keep(2)=2 crash(0)=true reopen()=1 `a`text()=1 begin()=1 keep(1)=2 "
            + "logged()=74 crash(99)=true reopen()=2 `a`text()=1 view(2)=true kindOf(1)=9");
        Sentence.run(x, "crash(99999)=true reopen()=5 `f`text()=9 `r`text()=12 begin()=1 keep(1)=6");
        end = recordIs(x, end, "01 00000006 0000000d 00000001 0000000c 06'LText;' 00000001 'r' 00000000");
        logEnds(x, end);
    }

    private static void collections() {
        Sentence.of("for a collection: the version from which on; the number of objects that were collected, and their numbers in ascending order.");
        ObjectHouse x = Sentence.run("`class C{C c;}` declare()=1 sweep(0)=0 begin()=1 make(10)=1 make(10)=2 make(10)=3 make(10)=4 root(0,3)=0 `t`text()=5 keep(1)=1 "
            + "begin()=2 keep(2)=2 view(0)=true sweep(1)=-1 sweep(3)=-14 begin()=3 make(10)=6"
            + " sweep(2)=4 drop(3)=true sweep(2)=0");
        int end = recordIs(x, 0, "02 00000000 00000000");
        String nulls = " 03'LC;' 00000001 0000000000000000";
        end = recordIs(x, end, "01 00000001 00000006 00000005 00000001" + nulls + " 00000002" + nulls + " 00000003" + nulls + " 00000004" + nulls
            + " 00000005 06'LText;' 00000001 't' 00000001 00 00000003");
        end = recordIs(x, end, "01 00000002 00000006 00000000 00000000");
        end = recordIs(x, end, "02 00000002 00000004 00000001 00000002 00000004 00000005");
        end = recordIs(x, end, "02 00000002 00000000");
        logEnds(x, end);
    }

    private static void sums() {
        Sentence.of("Returns the number of objects that were collected; -13; -14 if there is no such version;");
        Sentence.run("sweep(0)=-13 `class C{}` declare()=1 sweep(1)=-14 sweep(-1)=-14 sweep(0)=0 begin()=1 make(10)=1 make(10)=2 keep(1)=1 sweep(2)=-14 sweep(1)=2 "
            + "sweep(1)=0 sweep(0)=-14 crash(9999)=true sweep(1)=-13");
        Sentence.of("Returns the number of bytes of the log.");
        Sentence.run("logged()=0 logAt(0)=-1 `class C{}` declare()=1 logged()=0 sweep(0)=0 logged()=21 begin()=1 logged()=21 keep(1)=1 logged()=50 sweep(9)=-14 "
            + "keep(9)=-14 logged()=50 logAt(49) logAt(50)=-1 crash(0)=true logged()=21 reopen()=0 logged()=21");
        Sentence.of("At the end of a record stands its sum, 8 bytes: s is 0 at first; for each byte b before, s becomes (s xor b), rotated left by 27, times "
            + "0x9E3779B97F4A7C15 (with wrap-around).");
        // The sum of a record of 21 bytes, calculated with big numbers.
        java.math.BigInteger s = java.math.BigInteger.ZERO;
        java.math.BigInteger two64 = java.math.BigInteger.ONE.shiftLeft(64);
        int[] bytes = {0, 0, 0, 21, 2, 0, 0, 0, 0, 0, 0, 0, 0};
        for (int b : bytes) {
            s = s.xor(java.math.BigInteger.valueOf(b));
            s = s.shiftLeft(27).or(s.shiftRight(37)).mod(two64);
            s = s.multiply(new java.math.BigInteger("9E3779B97F4A7C15", 16)).mod(two64);
        }
        ObjectHouse x = Sentence.run("`` declare()=0 sweep(0)=0 logged()=21");
        for (int i = 0; i < 21; i++) {
            Sentence.run(x, "logAt(" + i + ")=" + (i < 13 ? bytes[i] : s.shiftRight(8 * (20 - i)).intValue() & 255));
        }
    }

    private static void mostBytes() {
        Sentence.of("The log has at most 40000 bytes.");
        // 17 bytes, 12 arrays of 400 with 3211 bytes each, two texts with 15 and their bytes, 12 bytes: 38591 and the texts.
        for (int more = -1; more <= 1; more++) {
            ObjectHouse x = Sentence.run("`class C{}` declare()=1 "
                + "begin()=1 " + "array(5,400) ".repeat(12) + "`" + "x".repeat(1000) + "`text()=13 `" + "x".repeat(409 + more) + "`text()=14 root(1,0)=0 root(1,0)=0");
            int bytes = 17 + 12 * 3211 + 2 * 15 + 1409 + more + 4 + 5 + 8;
            boolean isFull = bytes > 40000;
            Sentence.run(x, "keep(1)=" + (isFull ? "-12 logged()=0 newest()=0 clash()=-1 use(1)=true drop(1)=true" : "1 logged()=" + bytes + " newest()=1"));
            Check.is("the bytes of the log", bytes, 40005 + more);
        }
        for (int more = -1; more <= 1; more++) {
            ObjectHouse x = Sentence.run("`class C{}` declare()=1 "
                + "begin()=1 " + "array(5,400) ".repeat(12) + "`" + "x".repeat(1000) + "`text()=13 `" + "x".repeat(409 + more) + "`text()=14");
            int bytes = 40000 + more;
            Sentence.run(x, "keep(1)=" + (bytes > 40000 ? "-12 logged()=0 newest()=0 use(1)=true "
                + "element(1,0)=0" : "1 logged()=" + bytes + " newest()=1 logAt(" + (bytes - 1) + ") logAt(" + bytes + ")=-1 begin()=2 keep(2)=-12"
                + " sweep(1)=-12 drop(2)=true crash(99999)=true logged()=" + bytes + " reopen()=1 view(1)=true alive(14)=true size(14)=" + (409 + more)));
        }
        // A collection that fits exactly, and one byte more; what does not fit changes nothing.
        for (int more = 0; more <= 1; more++) {
            int letters = 409 - 21 - 4 * 14 + more;
            ObjectHouse x = Sentence.run("`class C{}` declare()=1 "
                + "begin()=1 " + "array(5,400) ".repeat(12) + "`" + "x".repeat(1000) + "`text()=13 `" + "x".repeat(letters) + "`text()=14 keep(1)=1 "
                + "logged()=" + (40000 - 21 - 56 + more));
            Sentence.run(x, more == 0 ? "sweep(1)=14 logged()=40000 view(0)=false view(1)=true alive(1)=false sweep(1)=-12" : "sweep(1)=-12 logged()=39924 view(0)=true "
                + "view(1)=true alive(1)=true alive(14)=true sweep(1)=-12");
        }
    }

    private static void crashes() {
        Sentence.of("of the last record, only the first n bytes are left, and the database is closed until it is opened again.");
        Sentence.of("`n`: how many bytes are left of the last record; if it has fewer bytes, all of them");
        // The first record has 29 bytes, the second one 29 + 5.
        String start = "`class C{}` declare()=1 begin()=1 keep(1)=1 begin()=2 root(9,0)=0 keep(2)=2 logged()=63 ";
        for (int n = 0; n <= 36; n++) {
            boolean isWhole = n >= 34;
            Sentence.run(start + "crash(" + n + ")=true logged()=" + (29 + Math.min(n, 34)) + " logAt(" + (28 + Math.min(n, 34)) + ") logAt(" + (29 + Math.min(n, 34))
                + ")=-1 crash(" + n + ")=false newest()=-1 reopen()=" + (isWhole ? 2 : 1)
                + " logged()=" + (isWhole ? 63 : 29) + " newest()=" + (isWhole ? 2 : 1));
        }
        Sentence.run(start + "crash(-1)=false newest()=2 crash(-2147483648)=false crash(2147483647)=true logged()=63 reopen()=2");
        // After an opening the last record is the last whole one.
        Sentence.run(start + "crash(33)=true reopen()=1 crash(28)=true logged()=28 reopen()=0 logged()=0 crash(5)=true logged()=0 reopen()=0 begin()=1 keep(1)=1 "
            + "logged()=29 crash(0)=true logged()=0 reopen()=0");
        Sentence.run(start + "crash(34)=true reopen()=2 crash(34)=true reopen()=2 crash(0)=true reopen()=1 crash(0)=true reopen()=0");
        Sentence.run("`class C{}` declare()=1 crash(0)=true logged()=0 reopen()=0 newest()=0 view(0)=true");
        // The last record is a collection.
        Sentence.run("`class C{}` declare()=1 begin()=1 make(10)=1 keep(1)=1 sweep(1)=1 logged()=66 crash(24)=true logged()=65 reopen()=1 view(1)=true alive(1)=true "
            + "logged()=41 sweep(1)=1 crash(25)=true reopen()=1 view(1)=true alive(1)=false");
        Sentence.of("Returns true; false if the database is closed, no classes are declared, or n is negative.");
        Sentence.run("crash(0)=false `class C{` declare()=-1 crash(0)=false reopen()=-13 `class C{}` declare()=1 crash(-1)=false crash(0)=true crash(0)=false "
            + "reopen()=0 crash(0)=true");
    }

    private static void lost() {
        Sentence.of("Everything except the log, the class text, the tray, the total of section 5 and the number of openings is lost;");
        String start = "`class C{int n;C c;int f(){return n;}Text t(){return \"k\";}}enum E{K,L}` declare()=2 `[[I`kind()=13 begin()=1 make(10)=4 put(4,0,4,5)=0 "
            + "root(1,4)=0 `t`text()=5 keep(1)=1 begin()=2 make(10)=6 `u`text()=7 put(4,0,4,6)=0"
            + " root(1,6)=0 begin()=3 argument(4,1)=1 argument(4,2)=2 ";
        Sentence.run(start + "`tray` crash(9999)=true end(4)=4 end(5)=-1 kinds()=12 reopen()=1 kinds()=12 end(4)=4 argument(4,1)=1 kindOf(4)=-13 begin()=1 get(4,0)=5 "
            + "rootAt(1)=4 alive(5)=true alive(6)=false alive(7)=false `t`text()=5 make(10)=6"
            + " use(2)=false use(3)=false keep(2)=-14 keep(1)=2 begin()=2");
        Sentence.of("The results of methods that tell about the latest calls are as at first; transactions are numbered from 1 again; kinds then tells the number of "
            + "types of the class text.");
        String told = "drop(3)=true use(2)=true record(10)=-1 `f`call(4,9)=0 answered()=6 steps()=1 `from e in E give e`ask(9)=2 range(10,0,0,9)=2 found(0)=6 write(4) "
            + "at(0)=79 put(6,1,8,6)=0 patch(4,6)=2 row(0,0)=1 get(9,0)=0 code()=14 ";
        String first = "place()=-1 clash()=-1 code()=0 answered()=0 answer(0,0)=0 answer(1,0)=0 answerKind(0)=-1 steps()=0 found(0)=0 found(1)=0 at(0)=-1 row(0,0)=0 "
            + "row(0,1)=0 row(1,0)=0 ";
        Sentence.run(start + told + "crash(9999)=true " + first + "kinds()=12 newest()=-1 reopen()=1 " + first + "begin()=1 apply()=0");
        Sentence.run(start + told + "begin()=4 put(4,0,4,7)=0 keep(4)=2 keep(2)=-1 clash()=4 crash(9999)=true clash()=-1 reopen()=2 clash()=-1 begin()=1");
        Sentence.run(start + told + "`from e in E give`ask(9)=-21 place()=16 crash(9999)=true place()=-1 reopen()=1 place()=-1");
        Sentence.run(start + "`from e in E give`ask(9)=-21 place()=16 `xx` crash(9999)=true `f` call(4,9)=-13 argument(4,9)=1 argument(8,9)=2 reopen()=1 "
            + "argument(4,9)=3 begin()=1 `f`call(4,9)=-14 argument(4,9)=1");
    }

    private static void openings() {
        Sentence.of("The newest version is that of the last commit record (0 if there is none), and the only one that exists.");
        Sentence.run("`class C{int n;}` declare()=1 begin()=1 make(10)=1 root(0,1)=0 keep(1)=1 begin()=2 put(1,0,4,2)=0 keep(2)=2 begin()=3 put(1,0,4,3)=0 keep(3)=3 "
            + "sweep(2)=0 crash(0)=true reopen()=3 view(0)=false view(2)=false view(4)=false"
            + " view(3)=true get(1,0)=3 sweep(3)=0 sweep(2)=-14 sweep(4)=-14 crash(0)=true reopen()=3 crash(0)=true reopen()=2 view(1)=false view(2)=true get(1,0)=2 "
            + "begin()=1 put(1,0,4,9)=0 keep(1)=3 view(2)=true get(1,0)=2 view(3)=true get(1,0)=9");
        Sentence.run("`class C{}` declare()=1 sweep(0)=0 crash(99)=true logged()=21 reopen()=0 view(0)=true view(1)=false crash(99)=true reopen()=0");
        Sentence.of("Returns the newest version; -13 if it is not closed;");
        Sentence.run("reopen()=-13 `class C{}` declare()=1 reopen()=-13 begin()=1 reopen()=-13 crash(0)=true reopen()=0 reopen()=-13 begin()=1");
    }

    private static void damages() {
        Sentence.of("The first one that is cut off, whose length or sum is wrong, or that is not as it was written, is removed with everything behind it.");
        // Records of 60, 34, 21 and 29 bytes.
        String start = "`class C{int n;C c;}` declare()=1 begin()=1 make(10)=1 root(0,1)=0 keep(1)=1 begin()=2 root(9,0)=0 keep(2)=2 sweep(2)=0 begin()=3 keep(3)=3 "
            + "crash(999)=true ";
        int[] starts = new int[5];
        ObjectHouse measured = Sentence.run("`class C{int n;C c;}` declare()=1 begin()=1 make(10)=1 root(0,1)=0 keep(1)=1");
        starts[1] = 17 + (4 + 4 + 4 + 16) + 4 + 5 + 8;
        Check.is("the first record", measured.logged(), starts[1]);
        starts[2] = starts[1] + 34;
        starts[3] = starts[2] + 21;
        starts[4] = starts[3] + 29;
        int[] versions = {0, 1, 2, 2, 3};
        int[] masks = {1, 128, 255, 16, 64};
        for (int i = 0; i < starts[4]; i++) {
            int left = 0;
            while (i >= starts[left + 1]) {
                left++;
            }
            Sentence.run(start + "poke(" + i + "," + masks[i % 5] + ")=true reopen()=" + versions[left] + " logged()=" + starts[left]);
        }
        // Twice the same is nothing; a record behind a damaged one is gone, too, though it is whole.
        Sentence.run(start + "poke(3,7)=true poke(3,7)=true poke(100,0)=true poke(100,256)=true poke(100,-256)=true reopen()=3 logged()=" + starts[4]);
        Sentence.run(start + "poke(3,7)=true poke(3,6)=true reopen()=0 logged()=0 view(0)=true alive(1)=false begin()=1 make(10)=1 keep(1)=1");
        Sentence.run(start + "poke(" + starts[1] + ",1)=true poke(" + starts[3] + ",1)=true poke(" + starts[3] + ",1)=true reopen()=1 "
            + "logged()=" + starts[1] + " crash(0)=true reopen()=0");
        // What was removed is no damage of what is written later in its place.
        Sentence.run(start + "poke(70,1)=true reopen()=1 begin()=1 root(9,0)=0 keep(1)=2 crash(999)=true reopen()=2 logged()=" + starts[2]);
        Sentence.run(start + "poke(70,1)=true reopen()=1 crash(999)=true poke(" + starts[1] + ",1)=false reopen()=1");
        Sentence.of("`mask`: the byte becomes byte xor (mask & 255)");
        Sentence.run(start + "logAt(4)=1 poke(4,254)=true logAt(4)=255 poke(4,-1)=true logAt(4)=0 poke(4,256)=true logAt(4)=0 poke(4,2147483647)=true logAt(4)=255 "
            + "poke(4,-2147483648)=true logAt(4)=255 poke(4,254)=true logAt(4)=1 reopen()=3");
        Sentence.of("Returns true; false if the database is not closed, or there is no such byte.");
        int before = Sentence.run(start).logAt(5);
        Sentence.run(start + "poke(-1,1)=false poke(" + starts[4] + ",1)=false poke(2147483647,1)=false "
            + "poke(-2147483648,1)=false poke(" + (starts[4] - 1) + ",0)=true poke(0,0)=true poke(5,768)=true logAt(5)=" + before
            + " poke(5,257)=true logAt(5)=" + (before ^ 1) + " poke(5,-1)=true logAt(5)=" + (before ^ 1 ^ 255) + " poke(5,254)=true logAt(5)=" + before
            + " reopen()=3 poke(0,0)=false");
        Sentence.run("poke(0,0)=false `class C{}` declare()=1 begin()=1 keep(1)=1 poke(0,0)=false crash(0)=true poke(0,0)=false reopen()=0");
        Sentence.run("`class C{}` declare()=1 begin()=1 keep(1)=1 crash(1)=true poke(0,0)=true poke(1,0)=false reopen()=0");
    }

    private static void restoredObjects() {
        Sentence.of("Objects are as the records say, one record after the other; those that were collected, and that no later record contains again, do not exist.");
        // Types: 10 C, 11 R, 12 int[] with the text.
        ObjectHouse x = Sentence.run("`class C{C c;boolean z;float f;double d;Text t;}record R(int[] a,Object o){}` declare()=2 begin()=1 make(10)=1 make(10)=2 "
            + "array(4,2)=3 `long text`text()=4 argument(8,3)=1 argument(8,1)=2 record(11)=5 put(1,0,8,2)=0"
            + " put(1,1,0,1)=0 put(1,2,6,-2.5f)=0 put(1,3,7,-2.5d)=0 put(1,4,8,4)=0 set(3,1,4,-2147483648)=0 root(0,5)=0 root(1,4)=0 keep(1)=1 begin()=2 "
            + "put(1,2,6,1.0f)=0 set(3,0,4,7)=0 root(1,2)=0 keep(2)=2 begin()=3 root(2,1)=0 put(1,0,8,0)=0"
            + " keep(3)=3 crash(9999)=true reopen()=3");
        Sentence.run(x, "view(3)=true rootAt(0)=5 rootAt(1)=2 rootAt(2)=1 rootAt(3)=0 get(1,0)=0 get(1,1)=1 get(1,2)=1.0f get(1,3)=-2.5d get(1,4)=4 get(5,0)=3 "
            + "get(5,1)=1 element(3,0)=7 element(3,1)=-2147483648 size(4)=9 letter(4,8)='t'"
            + " `long text`text()=4 kindOf(5)=11 kindOf(2)=10 alive(6)=false begin()=1 put(5,0,8,0)=-5 put(1,0,8,1)=0 keep(1)=4 sweep(4)=0 crash(9999)=true reopen()=4 "
            + "view(4)=true get(1,0)=1 alive(2)=true");
        // Several roots of the last record, texts with gaps before them, new objects in the room of lost ones.
        x = Sentence.run("`class C{int n;C c;Text t;}` declare()=1 `a`text()=1 `b`text()=2 begin()=1 make(10)=3 begin()=2 make(10)=4 `c`text()=5 put(4,0,4,7)=0 "
            + "put(4,1,8,4)=0 put(4,2,8,5)=0 array(5,3)=6 set(6,2,5,-1)=0 root(0,4)=0 root(7,6)=0 root(15,5)=0"
            + " drop(1)=true sweep(0)=2 keep(2)=1 begin()=3 make(10)=7 put(7,0,4,9)=0 put(7,1,8,7)=0 array(5,2)=8 set(8,0,5,-1)=0 set(8,1,5,-1)=0 `d`text()=9 "
            + "put(4,0,4,8)=0 keep(3)=2 crash(0)=true reopen()=1 view(1)=true");
        Sentence.run(x, "rootAt(0)=4 rootAt(7)=6 rootAt(15)=5 rootAt(1)=0 rootAt(8)=0 kindOf(5)=9 letter(5,0)='c' `c`text()=5 kindOf(4)=10 kindOf(3)=-14 kindOf(1)=-14 "
            + "kindOf(2)=-14 get(4,0)=7 get(4,2)=5 element(6,2)=-1 alive(7)=false begin()=1 make(10)=7 get(7,0)=0"
            + " get(7,1)=0 get(7,2)=0 array(5,2)=8 element(8,0)=0 element(8,1)=0 `d`text()=9 get(4,0)=7 put(4,0,4,1)=0 keep(1)=2 clash()=-1 crash(9999)=true reopen()=2 "
            + "view(2)=true kindOf(9)=9 letter(9,0)='d' `d`text()=9 get(4,0)=1 `a`text()=10 `b`text()=11");
        Sentence.run("`class C{}` declare()=1 begin()=1 make(10)=1 begin()=2 make(10)=2 use(1)=true make(10)=3 `t`text()=4 use(2)=true root(0,4)=0 drop(1)=true "
            + "keep(2)=1 crash(999)=true reopen()=1 view(1)=true alive(1)=false alive(2)=true alive(3)=false kindOf(4)=9"
            + " rootAt(0)=4 `t`text()=4 `u`text()=5");
        // A text that is lost is no text of the next life.
        Sentence.run("`class C{}` declare()=1 `a`text()=1 crash(0)=true reopen()=0 `b`text()=1 `a`text()=2 view(0)=true letter(1,0)='b' begin()=1 keep(1)=1 "
            + "crash(99)=true reopen()=1 `a`text()=2 `b`text()=1");
        // Object 2 is collected, and stays so; what a cut off collection collected is there again.
        Sentence.run("`class C{C c;}` declare()=1 begin()=1 make(10)=1 make(10)=2 `a`text()=3 root(0,1)=0 keep(1)=1 sweep(1)=2 begin()=2 put(1,0,8,1)=0 keep(2)=2 "
            + "crash(999)=true reopen()=2 view(2)=true alive(1)=true alive(2)=false alive(3)=false"
            + " `a`text()=4 begin()=1 make(10)=5 keep(1)=3 crash(0)=true reopen()=2 crash(0)=true reopen()=1 view(1)=true alive(2)=false get(1,0)=0 crash(0)=true "
            + "reopen()=1 view(1)=true alive(2)=true alive(3)=true `a`text()=3");
        // The number of a text that was collected before any commit contained it is given again, and a later record contains it.
        x = Sentence.run("`class C{C c;}` declare()=1 begin()=1 make(10)=1 keep(1)=1 `a`text()=2 `b`text()=3 sweep(1)=3 crash(999)=true reopen()=1 view(1)=true "
            + "alive(1)=false alive(2)=false begin()=1 make(10)=2 `b`text()=3 put(2,0,8,2)=0 root(0,2)=0"
            + " keep(1)=2 crash(999)=true reopen()=2 view(2)=true alive(1)=false alive(2)=true kindOf(2)=10 alive(3)=true kindOf(3)=9 get(2,0)=2 rootAt(0)=2 "
            + "`b`text()=3 `a`text()=4");
        Sentence.run(x, "begin()=1 keep(1)=3 sweep(3)=2 crash(999)=true reopen()=3 view(3)=true alive(2)=true alive(3)=false alive(4)=false `b`text()=5");
    }

    private static void nextNumbers() {
        Sentence.of("The number of the next object is that of the last commit record (the one behind the constants and the texts of the class text, if there is none).");
        String start = "`class C{Text f(){return \"k\";}}enum E{K,L}` declare()=2 ";
        Sentence.run(start + "begin()=1 make(10)=4 crash(0)=true reopen()=0 begin()=1 make(10)=4 make(10)=5 drop(1)=true begin()=2 keep(2)=1 make(10)=-13 begin()=3 "
            + "make(10)=6 crash(99)=true reopen()=1 begin()=1 make(10)=6 keep(1)=2 crash(0)=true"
            + " reopen()=1 begin()=1 make(10)=6 crash(0)=true reopen()=0 begin()=1 make(10)=4");
        Sentence.run(start + "`a`text()=4 sweep(0)=1 crash(999)=true reopen()=0 `b`text()=4 begin()=1 keep(1)=1 crash(999)=true reopen()=1 view(1)=true letter(4,0)='b' "
            + "`c`text()=5");
        // Objects up to the next number count for the 4000, others do not.
        String many = Sentence.graph("4f47 01 03'LC;' d00f" + "00".repeat(2000));
        String rest = Sentence.graph("4f47 01 03'LC;' cc0f" + "00".repeat(1996));
        Sentence.run(start + "begin()=1 " + many + " read()=4 drop(1)=true begin()=2 make(10)=2004 keep(2)=1 crash(99)=true reopen()=1 begin()=1 alive(2003)=false "
            + "alive(2004)=true " + rest + " read()=2005 make(10)=-12 crash(0)=true reopen()=0 begin()=1 make(10)=4");
    }

    private static void elements() {
        Sentence.of("The 20000 fields and elements are counted anew from the records, including those of objects that were collected.");
        String five = "array(5,400) ".repeat(5);
        Sentence.run("`class C{}` declare()=1 begin()=1 " + five + "root(0,1)=0 keep(1)=1 begin()=2 set(1,0,4,1)=0 keep(2)=2 sweep(2)=4 "
            + "begin()=3 " + "array(5,400) ".repeat(45) + "array(4,1)=-12 drop(3)=true begin()=4 array(4,1)=-12 crash(99999)=true"
            + " reopen()=2 begin()=1 alive(1)=true alive(2)=false " + "array(5,400) ".repeat(45) + "array(4,1)=-12 array(4,0)=51 crash(0)=true reopen()=2 crash(0)=true "
            + "reopen()=1 begin()=1 " + "array(5,400) ".repeat(45) + "array(4,1)=-12 crash(0)=true"
            + " reopen()=0 begin()=1 " + "array(5,400) ".repeat(50) + "array(4,1)=-12 array(4,0)=51");
    }

    private static void arrayTypes() {
        Sentence.of("Array types that do not occur in the class text are lost by a crash, and get numbers again by the descriptors in the records, in order.");
        // 10 C, 11 long[]; then in the order of the calls.
        Sentence.run("`class C{long[] a;}` declare()=1 `[[[I`kind()=14 `[Z`kind()=15 begin()=1 array(10,0)=1 kindOf(1)=16 array(15,0)=2 kindOf(2)=17 array(5,0)=3 "
            + "kindOf(3)=11 keep(1)=1 begin()=2 array(12,0)=4 kindOf(4)=13 array(2,0)=5 kindOf(5)=18"
            + " keep(2)=2 sweep(2)=5 array(3,0)=-13 begin()=3 array(3,0)=6 kindOf(6)=19 kinds()=20 crash(9999)=true kinds()=12 `[J`kind()=-13 reopen()=2 kinds()=18 "
            + "`[LC;`kind()=12 `[Z`kind()=13 `[[Z`kind()=14 `[I`kind()=15 `[[I`kind()=16 `[S`kind()=17"
            + " `[C`kind()=18 `[[[I`kind()=19 `[[[LC;`kind()=21 kinds()=22 crash(0)=true reopen()=2 crash(0)=true reopen()=1 kinds()=15 `[I`kind()=15 crash(0)=true "
            + "reopen()=0 kinds()=12 `[I`kind()=12");
    }

    private static void mostOpenings() {
        Sentence.of("-12 if it was opened 20 times (then it stays closed).");
        Sentence.of("A database is opened again at most 20 times.");
        Sentence.run("`class C{}` declare()=1 begin()=1 keep(1)=1 " + "crash(99)=true reopen()=1 ".repeat(19) + "begin()=1 make(10)=1 keep(1)=2 crash(0)=true "
            + "poke(0,0)=true reopen()=1 reopen()=-13 begin()=1 crash(0)=true reopen()=-12 logged()=0 reopen()=-12 newest()=-1"
            + " begin()=-13 crash(0)=false kinds()=11 poke(0,0)=false view(0)=false `a`text()=-13 argument(4,1)=1 feed(0,0,0,0,0)=21 end(0)=0");
        Sentence.run("`class C{}` declare()=1 " + "crash(0)=true reopen()=0 ".repeat(20) + "crash(0)=true reopen()=-12 reopen()=-12");
    }
}
