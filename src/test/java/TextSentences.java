/** The sentences of section 2 that name a boundary: tokens, limits of the class text, depth, height, errors 1 and 2. */
public final class TextSentences {
    private static final String[] KEYWORDS = ("abstract class extends implements interface default enum record return boolean byte short char int long float double "
        + "true false null"
        + " this instanceof in from where order down give exists all count sum").split(" ");

    public static void main(String[] args) {
        blanks();
        names();
        numbers();
        characters();
        symbols();
        wholeText();
        grammar();
        casts();
        counts();
        depth();
        height();
        firstError();
        classNames();
        parents();
        circles();
        members();
        methods();
        otherTypes();
        missingBodies();
        bodies();
        Check.end("TextSentences");
    }

    /** The text as the body of a method of this type; error 0 is none. */
    private static void body(int error, String type, String marked) {
        String text = "enum E{K,L}class A{int n;A a;Object o;int[] is;boolean b;long l;double d;int f(int "
            + "i){return i;}" + type + " m(int p,A q){return " + marked + ";}}";
        if (error == 0) {
            Sentence.declared(2, text);
        } else {
            Sentence.refused(error, text);
        }
    }

    /** The value of a body of this type. */
    private static void value(String type, String body, long due) {
        ObjectHouse x = Sentence.declared(1, "class A{" + type + " m(){return " + body + ";}}");
        Sentence.run(x, "begin()=1 make(10) kindOf(1)");
        int t = x.make(10);
        Sentence.run(x, "`m`call(" + t + ",1000)=0 answered()=" + due);
    }

    private static void blanks() {
        Sentence.of("Blanks are the bytes 9, 10, 13, 32; they can stand between tokens.");
        for (int b = 0; b < 256; b++) {
            if (b >= 33 && b <= 126) {
                continue;
            }
            ObjectHouse x = new ObjectHouse();
            Check.tray(x, "class A{" + (char) b + "}");
            boolean isBlank = b == 9 || b == 10 || b == 13 || b == 32;
            Sentence.run(x, "declare()=" + (isBlank ? "1 place()=-1" : "-1 place()=8"));
        }
        Sentence.declared(1, " \t\n\rclass \t\n\rA\t{ int\n[\r] a ; int f ( ) { return 1\t+ 2 ; } } \n");
        Sentence.declared(0, " \t\r\n");
        Sentence.refused(1, "§cl ass A{}");
        body(1, "boolean", "1 < §< 2");
        body(1, "boolean", "b & §& b");
        body(1, "boolean", "1 §= = 1");
        body(1, "double", "1 .§5");
        body(1, "int", "2147483 §647");
        body(1, "long", "1 §L");
        body(0, "int", "p>>1");
        body(1, "int", "p> §> 1");
        body(1, "boolean", "! §= b");
        body(1, "boolean", "§!= b");
    }

    private static void names() {
        Sentence.of("names: a letter or _, followed by letters, digits and _; at most 30 characters;");
        String thirty = "abcdefghijklmnopqrstuvwxyzABCD";
        Sentence.declared(4, "class " + thirty + "{int EFGHIJKLMNOPQRSTUVWXYZ01234567;int _" + thirty.substring(1) + "(int _9){return _9;}}class "
            + "_{}enum Z{" + thirty + "}class z{z aZ_09;}");
        Sentence.refused(1, "class §" + thirty + "E{}");
        Sentence.refused(1, "class A{§" + thirty + "E a;}");
        Sentence.refused(1, "class A{int §" + thirty + "E;}");
        Sentence.refused(1, "enum A{§_" + thirty + "}");
        body(1, "int", "§" + thirty + "_");
        body(1, "int", "q.§" + thirty + "9");
        Sentence.refused(1, "class §9a{}");
        Sentence.refused(1, "class A\u00a7\u00e9{}");
        Sentence.refused(1, "class A§$b{}");
        Sentence.refused(1, "class A{int a§-b;}");
        Sentence.of("the keywords abstract class extends implements interface default enum record return boolean byte short char int long float double true false null "
            + "this instanceof in from where order"
            + " down give exists all count sum;");
        for (String k : KEYWORDS) {
            Sentence.refused(1, "class §" + k + "{}");
            Sentence.refused(1, "class A{int §" + k + ";}");
            Sentence.declared(1, "class " + k + "_{int " + k + "s;}");
            Sentence.refused(1, "enum A{§" + k + "}");
        }
        Sentence.declared(2, "class at{int length;int number;at Class;}class INT{}");
    }

    private static void numbers() {
        Sentence.of("numbers: digits (an int, at most 2147483647); digits and L (a long, at most 9223372036854775807);");
        value("int", "2147483647", 2147483647);
        value("int", "00000000000000000000002147483647", 2147483647);
        value("int", "0", 0);
        body(1, "int", "§2147483648");
        body(1, "int", "-§2147483648");
        body(1, "int", "§9999999999");
        body(1, "long", "§4294967296");
        body(1, "long", "§9223372036854775807");
        value("long", "9223372036854775807L", Long.MAX_VALUE);
        value("long", "2147483648L", 2147483648L);
        value("long", "0009223372036854775807L", Long.MAX_VALUE);
        body(1, "long", "§9223372036854775808L");
        body(1, "long", "§18446744073709551616L");
        body(1, "long", "§18446744073709551617L");
        body(1, "long", "1§l");
        Sentence.of("digits, a point and digits (a double, at most 15 digits; its value is that of all digits as an integer, divided, as doubles, by 10 to the power of "
            + "the number of digits behind the point);");
        value("double", "0.1", Check.bits(0.1));
        value("double", "1.0", Check.bits(1.0));
        value("double", "00.00", Check.bits(0.0));
        value("double", "123456789012.345", Check.bits(123456789012345.0 / 1000.0));
        value("double", "12345678901234.5", Check.bits(123456789012345.0 / 10.0));
        value("double", "9.99999999999999", Check.bits(999999999999999.0 / 1e14));
        value("double", "0.00000000000001", Check.bits(1.0 / 1e14));
        value("double", "2147483648.5", Check.bits(2147483648.5));
        body(1, "double", "§0.000000000000001");
        body(1, "double", "§123456789012345.6");
        body(1, "double", "§000000000000000.1");
        body(1, "double", "§1.999999999999999");
        body(1, "double", "1.§");
        body(1, "double", "§.5");
        body(1, "double", "1.§.5");
        body(1, "double", "1.5.§5");
        body(1, "double", "1.5§L");
        body(1, "double", "1.5§d");
        body(2, "double", "1.§e");
        Sentence.of("A name, number or text that is too long or too great is no token.");
        body(1, "int", "1+§2147483648+2147483648");
        body(1, "Object", "§\"" + "x".repeat(101) + "\"");
        body(1, "int", "p+§" + "x".repeat(31));
    }

    private static void characters() {
        Sentence.of("characters: ' and one byte from 32 to 126 other than ' and the backslash, and ';");
        for (int b = 0; b < 256; b++) {
            boolean isRight = b >= 32 && b <= 126 && b != '\'' && b != '\\';
            String text = "class A{char m(){return '" + (char) b + "';}}";
            ObjectHouse x = new ObjectHouse();
            Check.tray(x, text);
            Sentence.run(x, isRight ? "declare()=1 begin()=1 make(10)=1 `m`call(1,0)=0 answered()=" + b : "declare()=-1 place()=24");
        }
        body(1, "char", "§''");
        body(1, "char", "§'ab'");
        body(1, "char", "§'a");
        Sentence.refused(1, "class A{char m(){return §'");
        Sentence.refused(1, "class A{char m(){return §'a");
        Sentence.of("texts: \" and up to 100 bytes from 32 to 126 other than \" and the backslash, and \";");
        for (int b = 0; b < 256; b++) {
            boolean isRight = b >= 32 && b <= 126 && b != '"' && b != '\\';
            ObjectHouse x = new ObjectHouse();
            Check.tray(x, "class A{Text m(){return \"a" + (char) b + "\";}}");
            Sentence.run(x, isRight ? "declare()=1 begin()=1 letter(1,1)=" + b + " size(1)=2" : "declare()=-1 place()=" + (b == '"' ? 27 : 24));
        }
        for (int n : new int[] {0, 1, 99, 100}) {
            ObjectHouse x = Sentence.declared(1, "class A{Text m(){return \"" + "x".repeat(n) + "\";}}");
            Sentence.run(x, "begin()=1 kindOf(1)=9 size(1)=" + n);
        }
        body(1, "Text", "§\"" + "x".repeat(101) + "\"");
        Sentence.refused(1, "class A{Text m(){return §\"");
        Sentence.refused(1, "class A{Text m(){return §\"a");
    }

    private static void symbols() {
        Sentence.of("The tokens, each read as far as possible, are:");
        value("int", "-1>>>28", 15);
        value("int", "-16>>2", -4);
        value("int", "1<<4", 16);
        value("boolean", "2>=2", 1);
        value("boolean", "2<=1", 0);
        value("boolean", "!!true", 1);
        value("boolean", "1!=2", 1);
        value("boolean", "1<-1", 0);
        value("int", "1--1", 2);
        value("int", "1---1", 0);
        value("int", "~~5", 5);
        body(1, "int", "p>>>§>1");
        body(1, "int", "p>>>§=1");
        body(1, "int", "p>>§=1");
        body(1, "int", "p<<§<1");
        body(1, "int", "p<<§=1");
        body(1, "boolean", "p<=§>p");
        body(1, "boolean", "p==§=p");
        body(1, "boolean", "p!=§=p");
        body(1, "boolean", "b&&§&b");
        body(1, "boolean", "b||§|b");
        body(1, "int", "1+§+1");
        body(1, "int", "§+1");
        body(1, "int", "p §= 1");
        body(1, "int", "1§p");
        body(1, "boolean", "q instanceof A§.a");
        Sentence.of("the symbols { } ( ) [ ] , ; . ? : = + - * / % < > ! ~ & ^ | << >> >>> <= >= == != && ||.");
        // The search for names of classes ends at what is no token: behind a symbol C is a class, and (C begins a cast.
        String[] known = "{ } ( ) [ ] , ; . ? : = + - * / % < > ! ~ & ^ | << >> >>> <= >= == != && ||".split(" ");
        for (String s : known) {
            Sentence.refused(1, "class B{Object f(){return (C§.x);}} " + s + " class C{}");
        }
        for (String s : new String[] {"#", "$", "@", "\\", "\"a", "''", "'", "\u00e9", "\u007f", "2147483648", "x".repeat(31), "1.0000000000000000"}) {
            Sentence.refused(1, "class B{Object f(){return (C.x);}} §" + s + " class C{}");
        }
        for (String s : new String[] {"'\"'", "\"#\"", "1.5", "1L", "name", "while", "'#'"}) {
            Sentence.refused(1, "class B{Object f(){return (C§.x);}} " + s + " class C{}");
        }
    }

    private static void wholeText() {
        Sentence.beyond("The class text has at most 20000 bytes.");
        ObjectHouse x = Sentence.run("`" + " ".repeat(19991) + "class A{}` declare()=1 place()=-1");
        Sentence.run("`class A{}" + " ".repeat(19992) + "` declare()=-1 place()=20000 kinds()=0 end(1)=-1 `" + " ".repeat(20000) + "` declare()=0");
        Sentence.run("`#" + " ".repeat(20000) + "` declare()=-1 place()=20000");
        Sentence.run("`#" + " ".repeat(19999) + "` declare()=-1 place()=0");
    }

    private static void grammar() {
        Sentence.of("In the grammar, { x } means x any number of times, also none, [ x ] means x or nothing,");
        Sentence.declared(0, "");
        Sentence.declared(4, "class A{}interface B{}record C(){}enum D{E}");
        Sentence.declared(5, "class A extends P implements I{}abstract class P{}interface I extends J,K{}interface J{}interface K{}");
        Sentence.refused(1, "enum D{§}");
        Sentence.refused(1, "enum D{E,§}");
        Sentence.refused(1, "record C§{}");
        Sentence.refused(1, "record C(int§){}");
        Sentence.refused(1, "record C(int a,§){}");
        Sentence.refused(1, "record C(§,int a){}");
        Sentence.refused(1, "record C() §extends A{}");
        Sentence.refused(1, "record C(){int a§;}");
        Sentence.refused(1, "interface B §implements A{}");
        Sentence.refused(1, "interface B extends §{}");
        Sentence.refused(1, "class A implements §{}");
        Sentence.refused(1, "class A extends B§,C{}");
        Sentence.refused(1, "class A implements B §extends C{}");
        Sentence.refused(1, "enum D §implements B{E}");
        Sentence.refused(1, "abstract §enum D{E}");
        Sentence.refused(1, "abstract §record C(){}");
        Sentence.refused(1, "abstract §abstract class A{}");
        Sentence.refused(1, "class A{abstract §default int f();}");
        Sentence.refused(1, "class A{int f(int a§;}");
        Sentence.refused(1, "class A{int f(int a){§}}");
        Sentence.refused(1, "class A{int f(int a){return §;}}");
        Sentence.refused(1, "class A{int f(){return 1;}§;}");
        Sentence.refused(1, "class A{§;}");
        Sentence.refused(1, "class A{int§;}");
        Sentence.refused(1, "class A{int a§,b;}");
        Sentence.refused(1, "class A{int a §= 1;}");
        Sentence.refused(1, "class A{int a§[];}");
        Sentence.refused(1, "class A{}§}");
        Sentence.refused(1, "class A{}§;");
        Sentence.refused(1, "§from a in A give a");
        Sentence.of("All operators are left-associative.");
        value("int", "10-4-3", 3);
        value("int", "100/10/5", 2);
        value("int", "17%10%4", 3);
        value("int", "2*7/3*2", 8);
        value("int", "1<<2<<3", 32);
        value("int", "-256>>2>>1", -32);
        value("int", "-1>>>1>>>1", 0x3fffffff);
        value("boolean", "1==2==false", 1);
        value("boolean", "2!=2!=true", 1);
        value("boolean", "false==false==false", 0);
        value("double", "0.1+0.2+0.3", Check.bits(0.1 + 0.2 + 0.3));
        value("int", "1-2+3", 2);
        value("boolean", "true||true&&false", 1);
        value("boolean", "true||false&&false", 1);
        value("boolean", "false&&true|true", 0);
        value("boolean", "true|true^true", 1);
        value("boolean", "true^true&false", 1);
        value("boolean", "false&false==false", 0);
        value("boolean", "true==1<2", 1);
        value("boolean", "1<1<<1", 1);
        value("int", "1<<1+1", 4);
        value("int", "1+2*3", 7);
        value("int", "2*3+1", 7);
        value("int", "8>>1+1", 2);
        value("int", "6-2*2%3", 5);
        value("boolean", "false==null instanceof Text", 1);
        value("int", "~1+1", -1);
        value("int", "1|2^3&4", 3);
        value("boolean", "1+1<<1==4", 1);
        value("boolean", "true&1==1", 1);
        value("int", "-2*-3", 6);
        value("int", "true?1:false?2:3", 1);
        value("int", "false?1:false?2:3", 3);
        value("int", "true?false?1:2:3", 2);
        body(1, "boolean", "1<2 §instanceof A");
        body(1, "boolean", "q instanceof A §< 1");
        body(2, "boolean", "1<2§<3");
        body(0, "boolean", "q instanceof A==q instanceof A");
        body(1, "boolean", "!§exists x in is:true");
        body(1, "int", "1+§count x in is:true");
        body(1, "int", "b?1:b?3:4§:5");
    }

    private static void casts() {
        Sentence.of("A \"(\" begins a cast if behind it stands the keyword of a plain type, Object, Text, or a name that somewhere in the class text directly follows "
            + "class, interface, enum or record"
            + " (the class text is searched for this up to its first byte sequence that is no token).");
        body(1, "int", "(int)§");
        body(1, "int", "(int§+1)");
        body(1, "Object", "(Object§.a)");
        body(1, "Object", "(Text§+1)");
        body(1, "Object", "(E§.K)");
        body(1, "Object", "(A)§*q");
        body(0, "Object", "(o)");
        body(0, "int", "(p)-1");
        body(0, "int", "(int)-1");
        body(2, "Object", "(E)§-b");
        // A name that follows the word class only behind this body, or in a text that has an error there.
        Sentence.refused(1, "class B{Object f(){return (C§.x);}}class C{}");
        Sentence.refused(2, "class B{Object f(){return (§C.x);}}class D{}");
        Sentence.refused(1, "class B{Object f(){return (C§.x);}}class C");
        Sentence.refused(1, "class B{Object f(){return (C.x);}}§# class C{}");
        Sentence.refused(1, "class B{Object f(){return (C§.x);}}class C{} #");
        Sentence.refused(1, "class B{Object f(){return (I§.x)+(E.x);}}interface I{}enum E{K}");
        Sentence.refused(1, "class B{Object f(){return (E§.x);}}enum E{K}");
        Sentence.refused(1, "class B{Object f(){return (R§.x);}}record R(){}");
        ObjectHouse x = Sentence.declared(1, "class B{}");
        Sentence.run(x, "begin()=1");
        Sentence.refusedQuery(x, 1, "from b in B give (B§.x)");
        Sentence.refusedQuery(x, 2, "from b in B give (§C.x)");
    }

    private static void counts() {
        Sentence.of("text = { declaration } (at most 60)");
        ObjectHouse x = Sentence.declared(60, Sentence.many("class A#{}", 60));
        Sentence.run(x, "kinds()=70 `LA59;`kind()=69");
        Sentence.refused(1, Sentence.many("class A#{}", 60) + "§class A{}");
        Sentence.refused(1, Sentence.many("enum A#{K}", 60) + "§abstract class A{}");
        Sentence.refused(1, Sentence.many("record A#(){}", 60) + "§interface A{}");
        Sentence.refused(1, Sentence.many("class A{}", 60) + "§x");
        Sentence.refused(2, "class A{}class §A{}" + Sentence.many("class A{}", 58));
        Sentence.of("A class or record has at most 40 fields, including those of its parents, and 20 methods of its own; a method has at most 8 parameters; an "
            + "enumeration has at most 40 constants.");
        String fields = Sentence.many("int a#;", 40);
        Sentence.run(Sentence.declared(1, "class A{" + fields + "}"), "fields(10)=40");
        Sentence.refused(2, "class A{" + fields + "int §b;}");
        Sentence.refused(2, "class A{" + fields + "int §b;int c;Z d;}");
        Sentence.refused(2, "class A{" + fields + "§Z b;}");
        Sentence.run(Sentence.declared(3, "class A extends B{" + Sentence.many("int a#;", 13) + "}class B extends C{" + Sentence.many("int b#;", 13) + "}class C{"
            + Sentence.many("int c#;", 14) + "}"),
            "fields(10)=40 fields(11)=27 fields(12)=14");
        Sentence.refused(2, "class A extends B{" + Sentence.many("int a#;", 13) + "int §x;}class B extends C{" + Sentence.many("int b#;", 13) + "}class C{"
            + Sentence.many("int c#;", 14) + "}");
        Sentence.declared(2, "class A{" + fields + "}class B extends A{int f(){return a39;}}");
        Sentence.refused(2, "class A{" + fields + "}class B extends A{int §b;}");
        Sentence.run(Sentence.declared(1, "record A(int a" + Sentence.many(",int b#", 39) + "){}"), "fields(10)=40");
        Sentence.refused(2, "record A(int a" + Sentence.many(",int b#", 39) + ",int §c){}");
        String methods = Sentence.many("int m#(){return 1;}", 20);
        Sentence.declared(1, "class A{" + methods + fields + "}");
        Sentence.declared(2, "class A{" + methods + "}class B extends A{" + methods.replace("m", "n") + "}");
        Sentence.declared(1, "record A(){" + methods + "}");
        Sentence.declared(1, "abstract class A{" + Sentence.many("abstract int m#();", 20) + "}");
        Sentence.refused(1, "class A{" + methods + "§int f(){return 1;}}");
        Sentence.refused(1, "class A{" + methods + "int b;§A f();}");
        Sentence.refused(1, "class A{" + methods + "int f§,g;}");
        Sentence.refused(1, "abstract class A{" + methods + "§abstract int f();}");
        Sentence.refused(1, "class A{" + methods + "§default int f(){return 1;}}");
        Sentence.refused(1, "record A(){" + methods + "§int f(){return 1;}}");
        Sentence.declared(1, "class A{int f(int a" + Sentence.many(",int b#", 7) + "){return 1;}}");
        Sentence.refused(1, "class A{int f(int a" + Sentence.many(",int b#", 7) + ",§int c){return 1;}}");
        Sentence.refused(1, "interface A{int f(int a" + Sentence.many(",int b#", 7) + ",§A c);}");
        Sentence.refused(1, "record A(int z){int f(int a" + Sentence.many(",int b#", 7) + ",§A[] c){return 1;}}");
        Sentence.run(Sentence.declared(1, "enum A{K" + Sentence.many(",L#", 39) + "}"), "constant(10,39)=40 constant(10,40)=-2");
        Sentence.refused(1, "enum A{K" + Sentence.many(",L#", 39) + ",§M}");
    }

    private static void depth() {
        Sentence.of("An expression has depth 1.");
        Sentence.of("A token with which the depth would be 31 is error 1.");
        String open = "(".repeat(29);
        String close = ")".repeat(29);
        String less = open.substring(1);
        String fewer = close.substring(1);
        body(0, "int", open + "1" + close);
        body(1, "int", open + "(§1)" + close);
        body(1, "int", open + "(§(");
        body(0, "int", less + "(1)" + fewer);
        Sentence.of("What stands behind a \"(\" or \"[\" in it (but not the \"[\" of a type) up to the corresponding bracket, behind the \"?\" and behind the \":\" of "
            + "a conditional expression,"
            + " behind a quantifier, behind a unary - ! ~, and behind a cast, is one deeper.");
        body(0, "int", less + "f(1)" + fewer);
        body(1, "int", open + "f(§1)" + close);
        body(0, "int", open + "p" + close + "+f(" + less + "1" + fewer + ")");
        body(1, "int", "f(" + open + "§1" + close + ")");
        body(0, "int", less + "is[0]" + fewer);
        body(1, "int", open + "is[§0]" + close);
        body(0, "Object", less + "(int[])o" + fewer);
        body(0, "boolean", open + "o instanceof int[]" + close);
        body(0, "int", less + "b?1:2" + fewer);
        body(1, "int", open + "b?§1:2" + close);
        body(0, "int", "b?1:".repeat(29) + "2");
        body(1, "int", "b?1:".repeat(29) + "b?§1:2");
        body(1, "int", "b?".repeat(30) + "§1");
        body(0, "int", "b?".repeat(29) + "1" + ":2".repeat(29));
        body(0, "int", less + "sum x in is:x" + fewer);
        body(1, "int", open + "sum §x in is:x" + close);
        body(1, "int", less + "sum x in is:(§x)" + fewer);
        body(1, "int", less + "sum x in (§is):x" + fewer);
        body(1, "int", less + "sum x in is:sum §y in is:y" + fewer);
        body(0, "int", "sum x in is:".repeat(3) + "p");
        for (String sign : new String[] {"- ", "~"}) {
            body(0, "int", sign.repeat(29) + "1");
            body(1, "int", sign.repeat(30) + "§1");
            body(1, "int", open + sign + "§1" + close);
            body(0, "int", less + sign + "1" + fewer);
        }
        body(0, "boolean", "!".repeat(29) + "b");
        body(1, "boolean", "!".repeat(30) + "§b");
        body(0, "int", "(int)".repeat(28) + "(int)1");
        body(1, "int", "(int)".repeat(29) + "(§int)1");
        body(1, "Object", open + "(§A)q" + close);
        body(1, "Object", less + "(A)(§q)" + fewer);
        body(1, "int", less + "(int)-§1" + fewer);
        // Behind the bracket it is as deep as before it.
        body(0, "int", "(".repeat(29) + "1" + ")".repeat(29) + "+" + open + "1" + close);
        body(0, "int", "-1+" + open + "1" + close);
        body(0, "int", "(int)1+" + open + "1" + close);
        body(0, "int", "is[0]+" + open + "1" + close);
        body(0, "int", "f(f(f(1)+1)+1)+" + open + "1" + close);
        body(0, "int", "f(" + less + "1" + fewer + "+p)");
        ObjectHouse x = Sentence.declared(1, "class A{int n;}");
        Sentence.run(x, "begin()=1");
        Sentence.answered(x, "from a in A where " + open + "true" + close + " order " + open + "1" + close + " give " + open + "1" + close + "," + open + "2" + close);
        Sentence.refusedQuery(x, 1, "from a in A where " + open + "(§true)" + close);
        Sentence.refusedQuery(x, 1, "from a in A give 1," + open + "(§1)" + close);
        Sentence.refusedQuery(x, 1, "from a in " + open + "(§A" + close + ") give 1");
        Sentence.refusedQuery(x, 1, "from a in A,b in " + open + "(§a.n)" + close + " give 1");
        Sentence.refusedQuery(x, 2, "from a in A,§b in " + open + "a.n" + close + " give 1");
    }

    private static void height() {
        Sentence.of("The height of an expression without parts is 1, that of any other one 1 plus the greatest height of its parts; parentheses do not count, a call "
            + "without an object has only its arguments"
            + " as parts, and E.A with an enumeration E has the part E.");
        Sentence.of("A height above 30 is error 2, found before all other errors of the expression; its position is that of the word return (in a query: of the first "
            + "token of the expression).");
        String start = "enum E{K}class A{A a;int n;boolean b;int[] is;Object o;int f(){return 1;}int g(int i){return i;}A h(A a){return a;}int m(int[][] r){";
        // Each one has the height that is told; with as many additions as are missing it has 30, with one more 31.
        String[] parts = {"1:1", "n:1", "this.n:2", "f():1", "g(1):2", "g(g(1)):3", "this.f():2", "a.g(1+1):3", "h(a).g(1):3", "E.K.number:3", "(1):1", "((n)):1",
            "is[0]:2", "is[n+1]:3",
            "is.length:2", "r[0][0]:3", "r[0][1+1+1]:4", "-1:2", "~n:2", "(int)1:2", "(b?1:2):2", "(!b?1:2):3", "(b?1+1:2):3", "(b?1:2+2):3", "(sum x in is:x):2",
            "(sum x in is:x+1):3",
            "(sum x in r[0]:x):3", "(count x in A:true):2", "(count x in E:x==E.K):4", "(o instanceof A?1:2):3", "1*2:2", "(1+1)*(2+2):3", "\"a\".length():2", "\"a\".at(0):2"};
        for (String part : parts) {
            int colon = part.lastIndexOf(':');
            String text = part.substring(0, colon);
            int missing = 30 - Integer.parseInt(part.substring(colon + 1));
            Sentence.declared(2, start + "return " + text + "+1".repeat(missing) + ";}}");
            Sentence.refused(2, start + "§return " + text + "+1".repeat(missing + 1) + ";}}");
            if (!text.startsWith("E")) {
                Sentence.refused(2, start + "§return 1+(" + text + "+1".repeat(missing) + ");}}");
            }
        }
        Sentence.refused(2, start + "§return x" + "+true".repeat(30) + ";}}");
        Sentence.refused(2, start + "return §x" + "+true".repeat(29) + ";}}");
        Sentence.refused(2, start + "§return 1" + "+1".repeat(29) + " instanceof A;}}");
        Sentence.refused(2, start + "return 1" + "+1".repeat(28) + " §instanceof A;}}");
        Sentence.refused(2, start + "§return a" + ".a".repeat(29) + " instanceof A?1:2;}}");
        Sentence.refused(2, start + "§return a" + ".a".repeat(28) + " instanceof A?1:2;}}");
        Sentence.declared(2, start + "return a" + ".a".repeat(27) + " instanceof A?1:2;}}");
        Sentence.refused(2, start + "return 1;}int z(){return §y;}int w(){return x" + "+1".repeat(30) + ";}}");
        Sentence.refused(2, start + "§return 1" + "+1".repeat(30) + ";}int z(){return y;}}");
        ObjectHouse x = Sentence.declared(1, "class A{A a;int[] is;int n;}");
        Sentence.run(x, "begin()=1");
        Sentence.refusedQuery(x, 2, "from a in A where §(1)" + "+x".repeat(30) + " give 1");
        Sentence.refusedQuery(x, 2, "from a in A order §-1" + "+x".repeat(29) + " give 1");
        Sentence.refusedQuery(x, 2, "from a in A give 1,§1" + "+x".repeat(30));
        Sentence.refusedQuery(x, 2, "from a in A,b in §a" + ".a".repeat(29) + ".is give 1");
        Sentence.answered(x, "from a in A,b in a" + ".a".repeat(28) + ".is where true==" + "!".repeat(28) + "true order 1" + "+1".repeat(29) + " give 1"
            + "+1".repeat(29));
    }

    private static void firstError() {
        Sentence.of("The position is that of the first byte of the first token with which the tokens up to it are not the beginning of a text; or of the first byte of "
            + "something that is no token;"
            + " or of the first token that is one too many (of a declaration, method, parameter, constant, or of a from or give part of a query) or too deep.");
        Sentence.refused(1, "  §x");
        Sentence.refused(1, "class A{}  class§");
        Sentence.refused(1, "class A{} §#");
        Sentence.refused(1, "class A §# class");
        Sentence.refused(1, "class A{int f(){return 1;§int g#");
        Sentence.of("At the end of the text, it is the length of the text.");
        Sentence.refused(1, "class§");
        Sentence.refused(1, "class  \n§");
        Sentence.refused(1, "class A{int f(){return 1+   §");
        Sentence.refused(1, "abstract§");
        Sentence.refused(1, "class A{int f(int a§");
        Sentence.refused(1, "class A{int[§");
        Sentence.refused(1, "enum E{K§");
        Sentence.refused(1, "class A{int f(){return (§");
        Sentence.refused(1, "class A{int f(){return (int§");
        Sentence.refused(1, "class A{int f(){return f(§");
        Sentence.refused(1, "class A{int f(){return f(1§");
        Sentence.refused(1, "class A{int f(){return a[§");
        Sentence.refused(1, "class A{int f(){return a.§");
        Sentence.refused(1, "class A{int f(){return a instanceof§");
        Sentence.refused(1, "class A{int f(){return sum§");
        Sentence.refused(1, "class A{int f(){return sum x in§");
        Sentence.refused(1, "class A{int f(){return sum x in a:§");
        Sentence.refused(1, "class A{int f(){return " + "(".repeat(30) + "§");
        ObjectHouse x = Sentence.declared(1, "class A{int n;}");
        Sentence.run(x, "begin()=1");
        Sentence.refusedQuery(x, 1, "§");
        Sentence.refusedQuery(x, 1, "   §");
        Sentence.refusedQuery(x, 1, "from§");
        Sentence.refusedQuery(x, 1, "from a in A order a.n  §");
        Sentence.refusedQuery(x, 1, "from a in A,b in A,c in A,§");
        Sentence.refusedQuery(x, 1, "from a in A give 1,1,1,1,§");
        Sentence.of("Error 2 (only if there is no error 1) is the first of the following errors, in this order:");
        Sentence.refused(1, "class A{}class A{}class B extends B{Z z;}§x");
        Sentence.refused(2, "class B extends B{Z z;}class A{}class §A{}");
        Sentence.refused(2, "class B extends B{Z z;}class A extends §X{}");
        Sentence.refused(2, "class A{Z z;}class §B extends B{}");
        Sentence.refused(2, "interface I{long f();}class A implements I{int f(){return true;}}class B{§Z z;}");
        Sentence.refused(2, "class D{}interface I{long f();}abstract class C implements I{int §f(){return true;}}class B implements I{}");
        Sentence.refused(2, "class B{int g(){return true;}}interface I{int f();}class §A implements I{}");
        Sentence.refused(2, "class A{int g(){§return true;}}class B{int f(){return x;}}");
    }

    private static void classNames() {
        Sentence.of("(a) For each declaration in order: the name of a class exists already, or is Object or Text (position: the name).");
        Sentence.refused(2, "class A{}interface B{}enum §A{K}class B{}");
        Sentence.refused(2, "interface A{}record §A(){}");
        Sentence.refused(2, "class A{}class §Text{}class A{}");
        Sentence.refused(2, "interface §Object{}");
        Sentence.refused(2, "record §Text(){}");
        Sentence.refused(2, "abstract class §Object{}");
        Sentence.declared(3, "class object{}class text{}class A{int a;int A(int b){return b;}}");
    }

    private static void parents() {
        Sentence.of("(b) For each declaration in order: the name behind extends of a class is not that of a class (Object counts as one; an enumeration, record or "
            + "interface does not); a name behind implements,"
            + " or behind extends of an interface, is not that of an interface, or is there twice (position: this name).");
        String others = "interface I{}interface J{}enum E{K}record R(){}abstract class P{}class C{}";
        Sentence.declared(7, "class A extends Object{}" + others);
        Sentence.declared(7, "class A extends P implements I,J{}" + others);
        for (String s : new String[] {"Z", "Text", "E", "R", "I", "x"}) {
            Sentence.refused(2, "class A extends §" + s + "{}" + others);
            Sentence.refused(2, "abstract class A extends §" + s + "{}" + others);
        }
        for (String s : new String[] {"Z", "Text", "Object", "E", "R", "P", "C", "A"}) {
            Sentence.refused(2, "class A implements I,§" + s + "{}" + others);
            Sentence.refused(2, "record A() implements I,§" + s + ",J{}" + others);
            Sentence.refused(2, "interface B extends §" + s + ",I{}class A{}" + others);
        }
        Sentence.refused(2, "class A implements I,J,§I{}" + others);
        Sentence.refused(2, "record A() implements I,§I{}" + others);
        Sentence.refused(2, "interface A extends I,J,§J{}" + others);
        Sentence.refused(2, "class A extends §I implements X{}" + others);
        Sentence.refused(2, "class A implements I,§I{}class B extends X{}" + others);
        // An interface that the parent has already is no repetition.
        Sentence.declared(8, "class A extends B implements I{}class B implements I{}" + others);
        Sentence.declared(7, "class A implements I,L{}interface I{}interface L extends I{}class B extends C implements I,L{}class C extends D{}class D implements "
            + "L{}enum X{K}");
    }

    private static void circles() {
        Sentence.of("(c) A class or interface that is its own parent or interface, directly or indirectly (position: its name; the first one in the text).");
        Sentence.refused(2, "class §A extends A{}");
        Sentence.refused(2, "interface §A extends A{}");
        Sentence.refused(2, "class C extends B{}class §A extends B{}class B extends A{}");
        Sentence.refused(2, "class C extends B{}class §B extends D{}class D extends E{}class E extends B{}");
        Sentence.refused(2, "interface X extends A{}class Y implements X{}interface Z{}interface §A extends Z,B{}interface B extends Z,A{}");
        Sentence.refused(2, "class §A0 extends A59{}" + chain(59));
        Sentence.declared(60, "class A0{}" + chain(59));
        // All of the 60 are above the last one: its fields, its methods and their types.
        ObjectHouse x = Sentence.declared(60, "class A0{int a;int f(){return a;}}" + chain(59));
        Sentence.run(x, "fields(69)=1 field(69,0)=4 fits(69,10)=1 fits(10,69)=0 begin()=1 make(69)=1 put(1,0,4,7)=0 `f`call(1,1)=0 answered()=7");
        Sentence.answered(x, "from x in A0 give x.f()", 7);
        Sentence.refused(2, "class A0{int a;}" + chain(58) + "class B extends A58{int §a;}");
        Sentence.refused(2, "class A0{int f(){return 1;}}" + chain(58) + "class B extends A58{long §f(){return 1;}}");
        Sentence.refused(2, "class A0{" + Sentence.many("int a#;", 40) + "}" + chain(58) + "class B extends A58{int §b;}");
    }

    private static void bodies() {
        Sentence.of("(g) The bodies of all methods, in order (section 3).");
        Sentence.refused(2, "class A{int f(){return 1;}int g(){return §x;}int h(){return y;}}interface I{default int f(){return z;}}");
        Sentence.refused(2, "class A{int f(){return 1;}}interface I{int e();default int f(){return §z;}}record R(){int f(){return y;}}");
        Sentence.refused(2, "record R(){int f(){return §y;}}class B extends C{int f(){return x;}}class C{int f(){return z;}}");
        Sentence.refused(2, "class A{int f(){return x;}}record R(){int f(){return 1;}int §f(){return y;}}");
    }

    private static String chain(int n) {
        StringBuilder s = new StringBuilder();
        for (int i = 1; i <= n; i++) {
            s.append("class A").append(i).append(" extends A").append(i - 1).append("{}");
        }
        return s.toString();
    }

    private static void members() {
        Sentence.of("(d) For each declaration in order, and for each member in order: a type that is not known (position: its name);");
        Sentence.refused(2, "class A{§Z a;}");
        Sentence.refused(2, "class A{§Z[][] a;}");
        Sentence.refused(2, "record A(int a,§Z b){}");
        Sentence.refused(2, "interface A{§Z f();}");
        Sentence.refused(2, "interface A{int f(int a,§Z b);}");
        Sentence.refused(2, "class A{int a;§Z b;Y c;}class B{X d;}");
        Sentence.refused(2, "class A{§A2 a;int a;}");
        Sentence.of("a field or parameter whose name is that of a class, or Object or Text, or that of a field of the class or its parents (for a field) or of an "
            + "earlier parameter"
            + " (for a parameter; it may have the name of a field), or the 41st field including those of the parents (position: the name);");
        String others = "class B{int b;}interface I{}enum E{K}record R(int r){}";
        for (String name : new String[] {"A", "B", "I", "E", "R", "Object", "Text"}) {
            Sentence.refused(2, "class A{int §" + name + ";}" + others);
            Sentence.refused(2, "class A{int f(int a,int §" + name + "){return 1;}}" + others);
            Sentence.refused(2, "record A(int a,long §" + name + "){}" + others);
            Sentence.refused(2, "interface A{int f(int §" + name + ");}" + others);
        }
        Sentence.refused(2, "class A{int a;int b;long §a;}");
        Sentence.refused(2, "class A extends B{long §b;}" + others);
        Sentence.refused(2, "class C extends A{int a;int §b;}class A extends B{}" + others);
        Sentence.refused(2, "record A(int a,int b,long §b){}");
        Sentence.refused(2, "class A{int f(int a,int b,long §a){return 1;}}");
        Sentence.declared(5, "class A extends B{int a;int f(int a,int b){return a+b;}int a(int f){return f;}int K;int r;}" + others);
        Sentence.declared(1, "class A{int f(int a){return a;}int g(int a){return a;}}");
    }

    private static void methods() {
        Sentence.of("for a method first its type, then the types and names of its parameters, then the following: a method with this name exists already in the class "
            + "itself (position: its name);");
        Sentence.refused(2, "class A{int f(){return 1;}§Z f(Y a,X b){return 1;}}");
        Sentence.refused(2, "class A{int f(){return 1;}int f(§Y a,X b){return 1;}}");
        Sentence.refused(2, "class A{int f(){return 1;}int f(int §A,X b){return 1;}}");
        Sentence.refused(2, "class A{int f(){return 1;}int f(int a,§X b){return 1;}}");
        Sentence.refused(2, "class A{int f(){return 1;}int f(int a,int §a){return 1;}}");
        Sentence.refused(2, "class A{int f(){return 1;}int §f(int a,int b){return 1;}}");
        Sentence.refused(2, "class A{int f(){return 1;}abstract int §f(int a);}");
        Sentence.refused(2, "interface A{int f();int §f();}");
        Sentence.refused(2, "record A(int a){int f(){return 1;}int §f(){return 1;}}");
        Sentence.declared(2, "class A{int f;int f(){return 1;}}class B extends A{int f(){return 2;}int g(){return f;}}");
        Sentence.of("abstract in a class that is not abstract, or one of the words abstract and default, or a body or its absence, where it is not allowed (position: "
            + "the first token of the method).");
        Sentence.refused(2, "class A{int a;§abstract int f();}");
        Sentence.refused(2, "class A{§abstract int f(){return 1;}}");
        Sentence.refused(2, "abstract class A{§abstract int f(){return 1;}}");
        Sentence.refused(2, "class A{§int f();}");
        Sentence.refused(2, "abstract class A{§A[] f();}");
        Sentence.of("In an interface, a method has either neither word and no body, or default and a body.");
        Sentence.refused(2, "interface A{§abstract int f();}");
        Sentence.refused(2, "interface A{§abstract int f(){return 1;}}");
        Sentence.refused(2, "interface A{§default int f();}");
        Sentence.refused(2, "interface A{§int f(){return 1;}}");
        Sentence.declared(1, "interface A{int f();default int g(){return 1;}}");
        Sentence.of("In classes and records default is not allowed, and a method has no body exactly if it is abstract; in records abstract is not allowed.");
        Sentence.refused(2, "class A{§default int f(){return 1;}}");
        Sentence.refused(2, "class A{§default int f();}");
        Sentence.refused(2, "abstract class A{§default int f(){return 1;}}");
        Sentence.refused(2, "record A(){§default int f(){return 1;}}");
        Sentence.refused(2, "record A(){§abstract int f();}");
        Sentence.refused(2, "record A(){§int f();}");
        Sentence.declared(2, "abstract class A{abstract int f();int g(){return 1;}}record B(){int f(){return 1;}}");
        Sentence.refused(2, "class A{§int f();Z a;}class B{Y b;}");
        Sentence.of("A constant that is there twice in an enumeration (position: the second one).");
        Sentence.refused(2, "enum E{K,L,M,§L,K}class B{Y b;}");
        Sentence.refused(2, "enum E{K,§K}");
        Sentence.declared(2, "enum E{K,L,E,Object}enum F{K,L}");
    }

    private static void otherTypes() {
        Sentence.of("(e) For each declaration in order: a method whose name is also that of a method of a parent, or of an interface, at any distance, with other types "
            + "(position: its name);");
        Sentence.refused(2, "class A{int f(){return 1;}}class B extends A{long §f(){return 1;}}");
        Sentence.refused(2, "class B extends A{int §f(int a){return 1;}}class A extends C{}class C extends D{}class D{int f(){return 1;}}");
        Sentence.refused(2, "interface I{int f(int a);}interface J extends I{}class A implements J{int f(int a){return 1;}int g(){return 1;}}class B extends A{int "
            + "§f(long a){return 1;}}");
        Sentence.refused(2, "interface I{int f(int a,int b);}interface J extends I{int §f(int a);}");
        Sentence.refused(2, "interface I{Object f();}record R() implements I{Text §f(){return null;}}");
        Sentence.refused(2, "interface I{int f(int a,Object b);}record R() implements I{int §f(int a,R b){return 1;}}");
        Sentence.refused(2, "interface I{int f(int[] a);}abstract class C implements I{abstract int §f(int[][] a);}");
        Sentence.declared(2, "interface I{int f(int a,Object b);}abstract class R implements I{int f(int c,Object d){return 1;}}");
        Sentence.refused(2, "interface I{int f();int g();}abstract class R implements I{int g(){return 1;}long §f(){return 1;}}");
        Sentence.refused(2, "interface I{int f();int g();}abstract class R implements I{long §g(){return 1;}long f(){return 1;}}");
        Sentence.of("and two methods above the class, with the same name and different types (position: the name of the class).");
        Sentence.refused(2, "interface I{int f();}interface J{int f(int a);}class §A implements I,J{}");
        Sentence.refused(2, "interface I{int f();}interface J{long f();}interface §A extends I,J{}");
        Sentence.refused(2, "interface I{int f();}abstract class P{abstract long f();}abstract class §A extends P implements I{}");
        Sentence.refused(2, "interface I{int f();}interface J{long f();}record §A() implements I,J{}");
        Sentence.refused(2, "interface I{int f();}interface J extends I{}interface K{long f();}abstract class P implements J{}abstract class §A extends P "
            + "implements K{}");
        Sentence.refused(2, "interface I{int f();}interface J{long f();}abstract class A implements I,J{long §f(){return 1;}}");
        Sentence.refused(2, "interface I{int f();int g();}interface J{long f();int g();}abstract class A implements I,J{long §g(){return 1;}}");
        Sentence.refused(2, "interface I{int f();}interface J{long f();}abstract class §A implements I,J{}abstract class B extends A{}");
        Sentence.declared(3, "interface I{int f();}interface J{int f();}abstract class A implements I,J{}");
        // What is not above a class has nothing to do with it.
        Sentence.declared(4, "class P{int f(){return 1;}}class A extends P{}class Q{long f(){return 1;}}class B extends Q{}");
        Sentence.declared(4, "class P{int f(){return 1;}}class A extends P{int f(){return 2;}}class Q{long f(){return 1;}}class B extends Q{long f(){return 2;}}");
        // Fields and constants have nothing to do with it, either.
        Sentence.declared(3, "interface I{int f();}abstract class A implements I{long f;}enum E{f}");
    }

    private static void missingBodies() {
        Sentence.of("(f) For each class that is not abstract, and for each record, in order: a method for which no body is found, or not exactly one (section 4; "
            + "position: the name of the class).");
        Sentence.refused(2, "class §A implements I{}interface I{int f();}");
        Sentence.refused(2, "record §A() implements I{}interface I{int f();}");
        Sentence.refused(2, "class §A implements J{}interface I{int f();}interface J extends I{}");
        Sentence.refused(2, "class §A extends P{}abstract class P implements I{}interface I{int f();}");
        Sentence.refused(2, "class §A extends P{}abstract class P{abstract int f();}");
        Sentence.refused(2, "class §A extends P{}abstract class P extends Q{abstract int f();}class Q{int f(){return 1;}}");
        Sentence.declared(2, "abstract class A implements I{}interface I{int f();}");
        Sentence.declared(3, "class A extends P implements I{}abstract class P{int f(){return 1;}}interface I{int f();}");
        Sentence.declared(2, "class A implements I{}interface I{default int f(){return 1;}}");
        Sentence.declared(3, "class A implements I,J{}interface I{default int f(){return 1;}}interface J{int f();}");
        Sentence.declared(3, "class A implements J{}interface I{default int f(){return 1;}}interface J extends I{int f();}");
        Sentence.refused(2, "class §A implements I,J{}interface I{default int f(){return 1;}}interface J{default int f(){return 1;}}");
        Sentence.refused(2, "class §A implements K{}interface I{default int f(){return 1;}}interface J{default int f(){return 1;}}interface K extends I,J{int f();}");
        Sentence.declared(4, "class A implements K{}interface I{default int f(){return 1;}}interface J{default int f(){return 1;}}interface K extends I,J{default int "
            + "f(){return 1;}}");
        Sentence.declared(3, "class A implements I,J{int f(){return 1;}}interface I{default int f(){return 1;}}interface J{default int f(){return 1;}}");
        Sentence.declared(4, "class A extends B implements I,J{}class B{int f(){return 1;}}interface I{default int f(){return 1;}}interface J{default int "
            + "f(){return 1;}}");
        // The very first method of the text replaces one that comes later.
        Sentence.declared(3, "interface J extends I{default int f(){return 2;}}interface I{default int f(){return 1;}}class A implements J{}");
        Sentence.refused(2, "class B{}class §A implements I{}record C() implements I{}interface I{int f();}");
        Sentence.refused(2, "class §A implements I{int g(){return 1;}}interface I{int f();int g();}");
    }
}
