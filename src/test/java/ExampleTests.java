/** The six examples of section 11. */
public final class ExampleTests {
    private static void is(String call, long got, long due) {
        Check.is(call, got, due);
    }

    private static ObjectHouse declared(String text, int length) {
        ObjectHouse x = new ObjectHouse();
        Check.tray(x, text);
        is("end(" + length + ")", x.end(length), length);
        is("declare()", x.declare(), 1);
        is("begin()", x.begin(), 1);
        return x;
    }

    public static void main(String[] args) {
        ObjectHouse x = declared("class P{int n;P q;int t(){return q==null?n:n+q.t();}}       ", 53);
        is("make(10)", x.make(10), 1);
        is("make(10)", x.make(10), 2);
        is("put(1, 0, 4, 5L)", x.put(1, 0, 4, 5L), 0);
        is("put(2, 0, 4, 7L)", x.put(2, 0, 4, 7L), 0);
        is("put(2, 1, 8, 1L)", x.put(2, 1, 8, 1L), 0);
        Check.tray(x, "t                   ");
        is("end(1)", x.end(1), 1);
        is("call(2, 100)", x.call(2, 100), 0);
        is("answered()", x.answered(), 12);
        is("steps()", x.steps(), 11);

        x = declared("class P{int n;}     ", 15);
        is("make(10)", x.make(10), 1);
        is("root(0, 1)", x.root(0, 1), 0);
        is("keep(1)", x.keep(1), 1);
        is("begin()", x.begin(), 2);
        is("begin()", x.begin(), 3);
        is("put(1, 0, 4, 5L)", x.put(1, 0, 4, 5L), 0);
        Check.is("use(2)", x.use(2), true);
        is("put(1, 0, 4, 6L)", x.put(1, 0, 4, 6L), 0);
        is("keep(3)", x.keep(3), 2);
        is("keep(2)", x.keep(2), -1);
        is("clash()", x.clash(), 1);
        is("newest()", x.newest(), 2);

        x = declared("class P{int n;P q;} ", 19);
        is("make(10)", x.make(10), 1);
        is("make(10)", x.make(10), 2);
        is("put(1, 1, 8, 1L)", x.put(1, 1, 8, 1L), 0);
        is("put(2, 1, 8, 2L)", x.put(2, 1, 8, 2L), 0);
        is("same(1, 2)", x.same(1, 2), 1);
        is("write(1)", x.write(1), 18);
        is("at(0)", x.at(0), 79);
        is("put(2, 0, 4, 3L)", x.put(2, 0, 4, 3L), 0);
        is("same(1, 2)", x.same(1, 2), 0);
        is("patch(1, 2)", x.patch(1, 2), 1);
        is("row(0, 4)", x.row(0, 4), 3);
        is("apply()", x.apply(), 0);

        x = declared("class P{int n;}     ", 15);
        is("make(10)", x.make(10), 1);
        is("make(10)", x.make(10), 2);
        is("put(1, 0, 4, 5L)", x.put(1, 0, 4, 5L), 0);
        is("put(2, 0, 4, 2L)", x.put(2, 0, 4, 2L), 0);
        Check.tray(x, "from p in P order p.n give p.n          ");
        is("end(30)", x.end(30), 30);
        is("ask(100)", x.ask(100), 2);
        is("answer(0, 0)", x.answer(0, 0), 2);
        is("answer(1, 0)", x.answer(1, 0), 5);
        is("steps()", x.steps(), 6);
        is("range(10, 0, 0L, 9L)", x.range(10, 0, 0L, 9L), 2);

        x = declared("class P{int n;}     ", 15);
        is("make(10)", x.make(10), 1);
        is("put(1, 0, 4, 5L)", x.put(1, 0, 4, 5L), 0);
        is("root(0, 1)", x.root(0, 1), 0);
        is("keep(1)", x.keep(1), 1);
        is("logged()", x.logged(), 54);
        Check.is("crash(3)", x.crash(3), true);
        is("newest()", x.newest(), -1);
        is("reopen()", x.reopen(), 0);
        is("newest()", x.newest(), 0);
        Check.is("view(0)", x.view(0), true);
        is("rootAt(0)", x.rootAt(0), 0);
        Check.is("alive(1)", x.alive(1), false);

        x = new ObjectHouse();
        Check.tray(x, "class P{int n       ");
        is("end(13)", x.end(13), 13);
        is("declare()", x.declare(), -1);
        is("place()", x.place(), 13);
        Check.tray(x, "class P{Q q;}       ");
        is("end(13)", x.end(13), 13);
        is("declare()", x.declare(), -2);
        is("place()", x.place(), 8);
        is("kinds()", x.kinds(), 0);
        is("begin()", x.begin(), -13);
        Check.end("ExampleTests");
    }
}
