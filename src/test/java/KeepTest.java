/** Promises 20 to 22: hold, sweep, undo; what a sweep reaches, and which changes are kept. */
public final class KeepTest {
    private static final long W = Check.WHOLE;

    public static void main(String[] arguments) {
        holding();
        sweeping();
        working();
        behindErrors();
        behindRoom();
        mendedBehindSweeps();
        strings();
        undoing();
        keptChanges();
        Check.end("KeepTest");
    }

    private static void holding() {
        Check c = new Check(300);
        int v = (int) c.answer("_Vector: 2 Fill: { x = 'deep' }");
        Check.due("hold", c.world.hold(v, true), true);
        Check.due("held", c.world.object(v, 3), 1);
        Check.due("process and activation go", c.world.sweep(), 2);
        Check.due("it stays", c.world.object(v, 0), 2);
        Check.due("what it has stays", c.world.count(0), 13);
        Check.due("no longer", c.world.hold(v, false), true);
        Check.due("not held", c.world.object(v, 3), 0);
        Check.due("goes", c.world.sweep(), 3);
        Check.due("none", c.world.hold(v, true), false);
        Check.due("none", c.world.hold(-1, true), false);
        Check.due("none", c.world.hold(600, true), false);
        Check.due("objects 0 to 9 stay", c.world.count(0), 10);
        Check.due("sweeps", c.world.count(10), 2);
    }

    private static void sweeping() {
        Check c = new Check(300);
        c.run("self _Slots: { a <- 0 }");
        c.world.undo();
        c.world.sweep();
        Check.due("nothing but 0 to 9", c.world.count(0), 10);
        c.run("self _Slots: { a <- 0 }");
        c.world.sweep();
        c.run("a: [ | :x | x ]");
        Check.due("a process goes, its activation is a home", c.world.sweep(), 1);
        c.run("a: [ 3 ] _Spawn");
        c.world.turn(100);
        c.world.sweep();
        int q = (int) c.answer("a");
        c.world.sweep();
        Check.due("what is reached stays", c.world.answer(q, 0), W + 3);
        c.run("a: [ 'abc' ] _Spawn value");
        c.run("a: nil");
        c.world.sweep();
        Check.due("all goes", c.world.count(0), 10);
        // The lowest number that is free is taken.
        Check.due("numbers", c.run("3"), 10);
        Check.due("numbers", c.run("3"), 12);
        c.world.hold(11, true);
        c.world.sweep();
        Check.due("numbers", c.run("3"), 10);
        Check.due("numbers", c.run("3"), 13);
    }

    private static void working() {
        Check c = new Check(300);
        // What a stopped process is working out stays: here what the message goes to, and arguments.
        int p = c.run("'rcv' foo: 'one' Bar: { x = 1 } Baz: zork");
        c.world.sweep();
        Check.due("process, activation, two strings, object", c.world.count(0), 15);
        c.world.mend(p, 0);
        c.world.turn(1);
        Check.due("an error of the whole", c.erred(p), "foo:Bar:Baz:");
        c.world.sweep();
        Check.due("what it went to alone, and the process, its activation", c.world.count(0), 13);
        c.world.mend(p, 0);
        c.world.turn(1);
        c.world.sweep();
        Check.due("all goes", c.world.count(0), 10);
        p = c.run("{ a = 'q'. b = { }. c = zork }");
        c.world.sweep();
        Check.due("values of slots so far", c.world.count(0), 10 + 2 + 1 + 2);
        c.world.mend(p, 0);
        c.world.turn(1);
        c.world.sweep();
        p = c.run("[ 'first' ] ensure: [ zork ]");
        c.world.sweep();
        Check.due("the first's answer", c.world.count(0), 10 + 7);
        c.world.mend(p, 0);
        c.world.turn(1);
        Check.due("is there", c.string(c.world.answer(p, 0)), "first");
        c.world.sweep();
        p = c.run("[ ^ 'caret' ] ensure: [ zork ]");
        c.world.sweep();
        c.world.mend(p, 0);
        c.world.turn(1);
        Check.due("the value of a ^", c.string(c.world.answer(p, 0)), "caret");
        p = c.run("nil _Error: 'told'");
        c.world.sweep();
        Check.due("what its error tells", c.string(c.world.answer(p, 2)), "told");
        c.world.mend(p, 0);
        c.world.turn(1);
        c.world.sweep();
        p = c.tell("[ 'spawned' ] _Spawn");
        c.world.turn(1);
        int q = c.world.process(12, 0) == 0 ? 12 : 13;
        c.world.sweep();
        c.world.turn(9);
        Check.due("its block ahead of its activation", c.string(c.world.answer(q, 0)), "spawned");
        c.world.sweep();
        Check.due("all goes", c.world.count(0), 10);
        // A world that is full makes room by sweeps of its own.
        Check d = new Check(100);
        d.givesWhole("| n <- 0 | [ n > 300 ] whileFalse: [ { x <- 0 } x: n. n: n + 1 ]. n", 301);
        Check.due("sweeps", d.world.count(10) > 5, true);
    }

    /** A text on a new world is stopped by this error; a sweep then takes so many objects away. */
    private static void sweeps(String text, int error, int went) {
        Check c = new Check(0);
        int p = c.run(text);
        Check.due(text + ": error", c.world.process(p, 4), error);
        Check.due(text + ": went", c.world.sweep(), went);
        Check.due(text + ": nothing more", c.world.sweep(), 0);
    }

    private static void behindErrors() {
        // A message that was sent and erred is worked out: of it the error tells what it went to alone.
        sweeps("3 foo: 'abc'", 1, 1);
        sweeps("'rcv' foo: 'abc' Bar: [ 2 ]", 1, 2);
        sweeps("'rcv' foo", 1, 0);
        sweeps("resend.foo: 'abc'", 1, 1);
        sweeps("{ a* = { x = 1 }. b* = { x = 2 } } x", 2, 2);
        sweeps("{ a* = { x: q = ( 1 ) }. b* = { x: q = ( 2 ) } } x: 'abc'", 2, 3);
        sweeps("[ | :a | a ] value: 'abc' With: { }", 4, 2);
        sweeps("nil _Slots: { f: a = ( f: { } ) }. nil f: 'abc'", 6, 2);
        // An act that has failed without IfFail: is done, too, whatever its error is.
        sweeps("5 _Perform: '_Add:' With: (self _Vector: 1 Fill: 4)", 3, 2);
        sweeps("3 _Join: 'abc'", 3, 1);
        sweeps("3 _Add: [ 2 ]", 3, 1);
        sweeps("'rcv' _Add: 'abc'", 3, 1);
        sweeps("{ } _Peek: 'abc'", 3, 1);
        sweeps("'rcv' _Foo: 'abc' Bar: { }", 3, 2);
        sweeps("'rcv' _Error: 'abc'", 8, 0);
        // What other messages have so far is still worked out.
        sweeps("'rcv' foo: 'abc' Bar: ([ 2 ] _Join: 'def')", 3, 1);
        sweeps("{ a = 'abc'. b <- ('rcv' zork: 'def') }", 1, 1);
        // An act that has failed to its block is done, and nothing names the reason's string.
        sweeps("3 _At: 1 IfFail: [ 2 ]", 4, 1);
        sweeps("3 _At: 'abc' IfFail: [ 2 ]", 4, 2);
        sweeps("'rcv' _At: 9 IfFail: [ 2 ]", 4, 2);
        sweeps("3 _SizeIfFail: 5", 1, 1);
        sweeps("3 _SizeIfFail: 'blk'", 1, 1);
        sweeps("3 _FooIfFail: [ | :a. :b | a ]", 4, 1);
        // Till its block is through the reason is a cell of that.
        sweeps("3 _SizeIfFail: [ | :r | zork ]", 1, 1);
        // What _Perform:With: took out of its vector was no argument of it.
        sweeps("3 _Perform: 'foo:' With: (_Vector: 1 Fill: 'abc')", 1, 3);
        sweeps("'rcv' _Perform: 'foo' With: (_Vector: 0 Fill: 0)", 1, 2);
        sweeps("[ 2 ] _Perform: 'value:' With: (_Vector: 1 Fill: { })", 4, 3);
        sweeps("(3 foo: 'abc') bar: (4 _Perform: 'foo:' With: (_Vector: 1 Fill: 'def'))", 1, 1);
        // What unknown:With: would be given, too.
        sweeps("self _Slots: { unknown: s With: v = ( zork: 'abc' ) }. zork: 1", 6, 2);
        sweeps("self _Slots: { unknown: s With: v = ( zork: 'abc' And: { } ) }. zork", 6, 3);
        // The value of a ^ is reached while it waits for an ensure: alone.
        sweeps("self _Slots: { f = ( [ ^ 'abc' ] ) }. f value", 5, 3);
    }

    private static void sweepsFull(String ahead, int room, String text, String erred, int went) {
        Check c = Check.almostFull(ahead, room);
        int p = c.run(text);
        Check.due(text + ": error", c.world.process(p, 4), 7);
        Check.due(text + ": selector", c.erred(p), erred);
        Check.due(text + ": went", c.world.sweep(), went);
        Check.due(text + ": mend", c.world.mend(p, W + 4), true);
        c.world.turn(100);
        Check.due(text + ": answer", c.world.answer(p, 0), W + 4);
    }

    private static void behindRoom() {
        sweepsFull("whole _Slots: { f: a = ( a ) }", 3, "3 f: 'abc'", "f:", 1);
        sweepsFull("3", 3, "_Vector: 1 Fill: 'abc'", "_Vector:Fill:", 1);
        sweepsFull("3", 3, "{ } _Copy", "_Copy", 0);
        sweepsFull("3", 3, "{ a = 'abc'. b = 3 }", "", 1);
        sweepsFull("3", 4, "{ a = 'abc'. b = 'def' }", "", 2);
        sweepsFull("3", 2, "'abc'", "", 0);
        sweepsFull("self _Slots: { qq = { aa. bb } }", 3, "qq _Names", "_Names", 1);
        sweepsFull("self _Slots: { qq = { aa. bb } }", 4, "qq _Names", "_Names", 2);
        sweepsFull("3", 4, "3 _Add: 'abc' IfFail: [ | :r | r ]", "_Add:IfFail:", 2);
        sweepsFull("3", 4, "3 _Add: nil IfFail: [ | :r | r ]", "value:", 1);
        sweepsFull("whole _Slots: { unknown: s With: v = ( v ) }", 3, "3 f: 'abc'", "f:", 1);
        sweepsFull("whole _Slots: { unknown: s With: v = ( v ) }", 4, "3 f: 'abc'", "f:", 2);
        sweepsFull("whole _Slots: { unknown: s With: v = ( v ) }", 5, "3 f: 'abc'", "unknown:With:", 3);
    }

    private static void mended(String text, int error, long value, long want) {
        Check c = new Check(0);
        int p = c.run(text);
        Check.due(text + ": error", c.world.process(p, 4), error);
        c.world.sweep();
        Check.due(text + ": mend", c.world.mend(p, W + value), true);
        c.world.turn(3000);
        Check.due(text + ": answer", c.world.answer(p, 0), W + want);
    }

    private static void mendedBehindSweeps() {
        mended("9 - (3 _At: 1 IfFail: [ 2 ])", 4, 4, 5);
        mended("9 - (3 foo: 'abc')", 1, 4, 5);
        mended("9 - (3 foo: 'abc' Bar: 7 Baz: [ 2 ])", 1, 4, 5);
        mended("9 - (8 _Sub: ('rcv' _Add: 'abc'))", 3, 4, 5);
        mended("9 _Sub: (8 _Sub: ('rcv' _Error: 'abc'))", 8, 4, 5);
        mended("9 - (5 _Perform: '_Add:' With: (self _Vector: 1 Fill: 4))", 3, 4, 5);
        mended("9 - ([ 2 ] value: 'abc')", 4, 4, 5);
        mended("nil _Slots: { f: a = ( 1 _Sub: (f: { }) ) }. 9 - (nil f: 'abc')", 6, 4, 12);
        mended("9 - (3 _Perform: 'foo:' With: (_Vector: 1 Fill: 'abc'))", 1, 4, 5);
        mended("self _Slots: { unknown: s With: v = ( zork: 'abc' ) }. 9 - (zork: 1)", 6, 4, 5);
        mended("self _Slots: { unknown: s With: v = ( 1 _Sub: (zork: 2) ) }. 9 - (zork: 1)", 6, 4, 12);
        mended("whole _Slots: { unknown: s With: v = ( nil _SizeIfFail: 5 ) }. 9 - (5 zork)", 6, 4, 5);
        mended("self _Slots: { unknown: s With: v = ( 1 _Sub: (_Perform: 'zork' With: (_Vector: 0 Fill: 0)) ) }. 9 - zork", 6, 4, 12);
        mended("self _Slots: { f = ( [ ^ 'abc' ] ) }. 9 - f value", 5, 4, 5);
        mended("self _Slots: { f = ( [ ^ 'abc' ] ) }. 9 - ([ f value. 2 ] value)", 5, 4, 7);
    }

    private static void strings() {
        Check c = new Check(300);
        c.run("self _Slots: { a = 'abc'. b = 'ab' }");
        int a = (int) c.answer("a");
        c.gives("b , 'c'", a);
        c.gives("'abc' _Text", a);
        c.gives("'abc'", a);
        c.gives("'abc' = a", 1);
        c.world.hold((int) c.answer("'xyz'"), true);
        c.world.sweep();
        long x = c.answer("'xyz'");
        Check.due("one that lives", c.world.object((int) x, 3), 1);
        c.world.hold((int) x, false);
        c.world.sweep();
        Check.due("went", c.world.object((int) x, 0) == 1 && c.string(x).equals("xyz"), false);
    }

    private static void undoing() {
        Check c = new Check(300);
        Check.due("none", c.world.undo(), false);
        c.run("self _Slots: { a = { x <- 1. y = 2 } }");
        int a = (int) c.answer("a");
        c.run("a _Slots: { z = 3 }");
        c.run("a x: 9");
        Check.due("kept", c.world.count(6), 2);
        Check.due("undo", c.world.undo(), true);
        Check.due("two slots", c.world.object(a, 1), 2);
        Check.due("with what they held then", c.world.value(a, 0), W + 1);
        Check.due("undo", c.world.undo(), true);
        Check.due("lobby's slots", c.world.object(3, 1), 10);
        Check.due("no more", c.world.undo(), false);
        c.run("self _Slots: { a = { x = 1 }. b = { y = 2. z = 3 } }");
        a = (int) c.answer("a");
        int b = (int) c.answer("b");
        c.run("a _Become: b");
        Check.due("exchanged", c.world.object(a, 1), 2);
        Check.due("exchanged", c.world.object(b, 1), 1);
        c.world.undo();
        Check.due("both as they were", c.world.object(a, 1), 1);
        Check.due("both as they were", c.world.object(b, 1), 2);
        c.run("a _Take: 'x'. b _Define: a");
        Check.due("defined", c.world.object(b, 1), 0);
        c.world.undo();
        Check.due("defined no more", c.selector(b, 1), "z");
        c.world.undo();
        Check.due("taken no more", c.selector(a, 0), "x");
    }

    private static void keptChanges() {
        Check c = new Check(300);
        c.run("self _Slots: { n <- 0 }. n: { x <- 0 }. 1 to: 25 Do: [ | :i | n _Define: ({ x <- 0 } x: i) ]");
        Check.due("at most 20", c.world.count(6), 20);
        int n = (int) c.answer("n");
        for (int i = 24; i >= 5; i--) {
            Check.due("undo " + i, c.world.undo(), true);
            Check.due("x " + i, c.world.value(n, 0), W + i);
        }
        Check.due("no more", c.world.undo(), false);
        // What a kept change holds is reached: the object that was changed, and what it had.
        Check d = new Check(300);
        d.run("{ x = 'kept' } _Define: { }");
        d.world.sweep();
        Check.due("two stay", d.world.count(0), 12);
        d.world.undo();
        d.world.sweep();
        Check.due("they go", d.world.count(0), 10);
    }
}
