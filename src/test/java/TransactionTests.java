/** What transactions read and change, and which conflicts that makes. */
public final class TransactionTests {
    private static final String TEXT = "interface I{}class P implements I{int n;P p;int f(){return n;}boolean g(){return p.p==null;}int k(){return count q in C:true;}}class C extends P{}"
        + "class Z{}record R(int n,P p){}enum E{K}";

    /** Types: 10 I, 11 P, 12 C, 13 Z, 14 R, 15 E, 16 int[], 17 P[]; object 1 is E.K; 2 and 3 are P, 4 int[2], 5 P[1], 6 C; the version is 1. */
    private static ObjectHouse x;

    private static void start() {
        x = Check.open(TEXT);
        x.make(11);
        x.make(11);
        x.array(4, 2);
        x.array(11, 1);
        x.make(12);
        x.put(2, 1, 8, 3);
        x.set(5, 0, 8, 2);
        x.root(0, 2);
        Check.is("keep(1)", x.keep(1), 1);
        Check.is("begin()", x.begin(), 2);
    }

    /** Another transaction changes an object; the conflict of transaction 2 is due. */
    private static void conflict(String what, int changed, int due) {
        x.begin();
        if (x.kindOf(changed) == 16 || x.kindOf(changed) == 17) {
            x.set(changed, 0, x.kindOf(changed) == 16 ? 4 : 8, 0);
        } else {
            x.put(changed, 0, 4, 9);
        }
        Check.is("keep(3)", x.keep(3), 2);
        int kept = x.keep(2);
        Check.is("keep after " + what + " and a change of " + changed, kept, due < 0 ? 3 : -1);
        if (due >= 0) {
            Check.is("clash()", x.clash(), due);
        }
    }

    /** Another transaction creates an object. */
    private static void created(String what, int kind, int due) {
        x.begin();
        x.make(kind);
        Check.is("keep(3)", x.keep(3), 2);
        Check.is("keep after " + what, x.keep(2), due < 0 ? 3 : -1);
        if (due >= 0) {
            Check.is("clash()", x.clash(), due);
        }
    }

    public static void main(String[] args) {
        reads();
        errorsReadNothing();
        changes();
        classes();
        roots();
        snapshots();
        sweeping();
        Check.end("TransactionTests");
    }

    private static void reads() {
        start();
        conflict("nothing", 2, -1);
        start();
        x.get(2, 0);
        conflict("get", 2, 2);
        start();
        x.get(2, 0);
        conflict("get", 3, -1);
        start();
        x.element(4, 0);
        conflict("element", 4, 4);
        start();
        x.copy(4, 0, 4, 1, 0);
        conflict("copy of nothing", 4, -1);
        start();
        x.cloned(4);
        conflict("cloned", 4, 4);
        start();
        x.write(5);
        conflict("write", 3, 3);
        start();
        x.same(2, 3);
        conflict("same", 2, 2);
        start();
        x.same(2, 6);
        conflict("same of other types", 2, -1);
        start();
        x.patch(2, 3);
        conflict("patch", 3, 3);
        start();
        x.range(11, 0, 1, 0);
        conflict("range", 3, 3);
        start();
        x.range(12, 0, 1, 0);
        conflict("range", 3, -1);
        start();
        Check.call(x, 2, "g", 9);
        conflict("a call", 3, 3);
        start();
        Check.call(x, 2, "g", 1);
        conflict("a call that ends before", 3, -1);
        start();
        Check.ask(x, "from p in P give p", 9);
        conflict("a query without fields", 3, -1);
        start();
        Check.ask(x, "from p in P where p.n==1 give 1", 99);
        conflict("a query", 3, 3);
        start();
        Check.ask(x, "from p in P where p.n==1 give 1", 1);
        conflict("a query that ends before", 2, -1);
        start();
        Check.is("kindOf", x.kindOf(2) + x.size(4), 13);
        Check.ask(x, "from p in P where p instanceof C && ((Object)p==p) give 1", 99);
        conflict("kindOf, size, instanceof", 2, -1);
    }

    private static void errorsReadNothing() {
        start();
        Check.is("get", x.get(2, 7), 0);
        conflict("get with an error", 2, -1);
        start();
        x.element(4, 2);
        conflict("element with an error", 4, -1);
        start();
        x.copy(4, 0, 4, 1, 2);
        conflict("copy with an error", 4, -1);
        start();
        x.range(11, 0, 1L << 40, 0);
        conflict("range with an error", 2, -1);
        start();
        x.patch(2, 6);
        conflict("patch with an error", 2, -1);
    }

    private static void changes() {
        start();
        x.put(2, 0, 4, 0);
        conflict("put of the same value", 2, 2);
        start();
        x.put(2, 0, 5, 0);
        conflict("put with an error", 2, -1);
        start();
        x.set(4, 0, 4, 1);
        conflict("set", 4, 4);
        start();
        int t = x.array(4, 1);
        x.copy(t, 0, 4, 0, 1);
        conflict("copy", 4, 4);
        start();
        x.patch(3, 2);
        x.apply();
        conflict("apply", 3, 3);
        // The smallest number is told.
        start();
        x.put(6, 0, 4, 1);
        x.get(3, 0);
        x.begin();
        x.put(6, 0, 4, 1);
        x.put(3, 0, 4, 1);
        x.keep(3);
        Check.is("keep(2)", x.keep(2), -1);
        Check.is("clash()", x.clash(), 3);
    }

    private static void classes() {
        start();
        Check.ask(x, "from i in I give i", 9);
        created("a query over I", 12, 7);
        start();
        Check.ask(x, "from i in C give i", 9);
        created("a query over C", 11, -1);
        start();
        Check.ask(x, "from i in C give i", 9);
        created("a query over C", 12, 7);
        start();
        Check.call(x, 2, "k", 9);
        created("a quantifier over C", 12, 7);
        start();
        Check.call(x, 2, "k", 0);
        created("a quantifier that does not begin", 12, -1);
        start();
        Check.ask(x, "from z in Z,c in C give 1", 9);
        created("a source that is not reached", 12, -1);
        start();
        Check.ask(x, "from z in Z,c in C give 1", 9);
        created("a source that is empty", 13, 7);
        start();
        x.range(11, 0, 0, 0);
        created("range", 12, 7);
        // Also of an object that has been collected since.
        start();
        Check.ask(x, "from i in C give i", 9);
        x.begin();
        x.make(12);
        x.keep(3);
        x.begin();
        Check.is("sweep(1)", x.sweep(1), 3);
        x.drop(4);
        Check.is("keep(2)", x.keep(2), -1);
        Check.is("clash()", x.clash(), 7);
    }

    private static void roots() {
        start();
        x.rootAt(1);
        x.begin();
        x.root(1, 0);
        x.keep(3);
        Check.is("keep(2)", x.keep(2), -1);
        Check.is("clash()", x.clash(), 0);
        start();
        x.rootAt(1);
        x.root(2, 3);
        x.begin();
        x.root(3, 2);
        x.keep(3);
        Check.is("keep(2)", x.keep(2), 3);
        x.view(3);
        Check.is("rootAt(0)", x.rootAt(0), 2);
        Check.is("rootAt(2)", x.rootAt(2), 3);
        Check.is("rootAt(3)", x.rootAt(3), 2);
    }

    private static void snapshots() {
        start();
        x.begin();
        x.put(2, 0, 4, 7);
        x.make(11);
        x.use(2);
        Check.is("get(2, 0)", x.get(2, 0), 0);
        Check.is("alive(7)", x.alive(7), false);
        x.keep(3);
        Check.is("get(2, 0)", x.get(2, 0), 0);
        Check.is("alive(7)", x.alive(7), false);
        x.begin();
        Check.is("get(2, 0)", x.get(2, 0), 7);
        Check.is("alive(7)", x.alive(7), true);
        x.put(2, 0, 4, 8);
        Check.is("keep(4)", x.keep(4), 3);
        for (int v = 1; v <= 3; v++) {
            x.view(v);
            Check.is("get in version " + v, x.get(2, 0), v == 1 ? 0 : v + 5);
        }
        // Reads in a version are no reads of a transaction.
        start();
        x.view(1);
        x.get(2, 0);
        x.rootAt(0);
        conflict("reads in a version", 2, -1);
    }

    private static void sweeping() {
        // What is reachable from a version from the one on, though not from the last one.
        start();
        x.put(2, 1, 8, 0);
        x.root(1, 6);
        Check.is("keep(2)", x.keep(2), 2);
        Check.is("sweep(1)", x.sweep(1), 2);
        x.view(2);
        Check.is("alive(4)", x.alive(4), false);
        Check.is("alive(3)", x.alive(3), true);
        Check.is("sweep(2)", x.sweep(2), 1);
        Check.is("alive(3)", x.alive(3), false);
        Check.is("alive(6)", x.alive(6), true);
        Check.is("alive(1)", x.alive(1), true);
        // What an open transaction refers to; a root of it; a class that it read.
        start();
        int text = Check.text(x, "t");
        int other = Check.text(x, "u");
        x.make(11);
        x.root(3, text);
        x.put(2, 1, 8, 6);
        Check.is("sweep(1)", x.sweep(1), 3);
        Check.is("alive(3)", x.alive(3), true);
        Check.is("alive(6)", x.alive(6), true);
        Check.is("alive(text)", x.alive(text), true);
        Check.is("alive(other)", x.alive(other), false);
        start();
        Check.ask(x, "from c in C give c", 9);
        Check.is("sweep(1)", x.sweep(1), 2);
        Check.is("alive(6)", x.alive(6), true);
        // A text that is only written stays, too.
        start();
        text = Check.text(x, "t");
        x.write(text);
        Check.is("sweep(1)", x.sweep(1), 3);
        Check.is("alive(text)", x.alive(text), true);
        x.drop(2);
        Check.is("sweep(1)", x.sweep(1), 1);
    }
}
