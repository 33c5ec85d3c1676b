/** Promises 20 to 22: hold, sweep, undo; what a sweep reaches, and which changes are kept. */
public final class KeepTest {
    private static final long W = Check.WHOLE;

    public static void main(String[] arguments) {
        holding();
        sweeping();
        working();
        strings();
        undoing();
        keptChanges();
        Check.end("KeepTest");
    }

    private static void holding() {
        Check c = new Check(300);
        int v = (int) c.answer("_Vector: 2 Fill: { x = 'deep' }");
        Check.due("hold", c.world.hold(v, true), true);
        Check.due("held", c.world.object(v, 3), 1);
        Check.due("process and activation go", c.world.sweep(), 2);
        Check.due("it stays", c.world.object(v, 0), 2);
        Check.due("what it has stays", c.world.count(0), 13);
        Check.due("no longer", c.world.hold(v, false), true);
        Check.due("not held", c.world.object(v, 3), 0);
        Check.due("goes", c.world.sweep(), 3);
        Check.due("none", c.world.hold(v, true), false);
        Check.due("none", c.world.hold(-1, true), false);
        Check.due("none", c.world.hold(600, true), false);
        Check.due("objects 0 to 9 stay", c.world.count(0), 10);
        Check.due("sweeps", c.world.count(10), 2);
    }

    private static void sweeping() {
        Check c = new Check(300);
        c.run("self _Slots: { a <- 0 }");
        c.world.undo();
        c.world.sweep();
        Check.due("nothing but 0 to 9", c.world.count(0), 10);
        c.run("self _Slots: { a <- 0 }");
        c.world.sweep();
        c.run("a: [ | :x | x ]");
        Check.due("a process goes, its activation is a home", c.world.sweep(), 1);
        c.run("a: [ 3 ] _Spawn");
        c.world.turn(100);
        c.world.sweep();
        int q = (int) c.answer("a");
        c.world.sweep();
        Check.due("what is reached stays", c.world.answer(q, 0), W + 3);
        c.run("a: [ 'abc' ] _Spawn value");
        c.run("a: nil");
        c.world.sweep();
        Check.due("all goes", c.world.count(0), 10);
        // The lowest number that is free is taken.
        Check.due("numbers", c.run("3"), 10);
        Check.due("numbers", c.run("3"), 12);
        c.world.hold(11, true);
        c.world.sweep();
        Check.due("numbers", c.run("3"), 10);
        Check.due("numbers", c.run("3"), 13);
    }

    private static void working() {
        Check c = new Check(300);
        // What a stopped process is working out stays: here what the message goes to, and arguments.
        int p = c.run("'rcv' foo: 'one' Bar: { x = 1 } Baz: zork");
        c.world.sweep();
        Check.due("process, activation, two strings, object", c.world.count(0), 15);
        c.world.mend(p, 0);
        c.world.turn(1);
        Check.due("an error of the whole", c.erred(p), "foo:Bar:Baz:");
        c.world.sweep();
        Check.due("what erred goes on with is there", c.world.count(0), 15);
        c.world.mend(p, 0);
        c.world.turn(1);
        c.world.sweep();
        Check.due("all goes", c.world.count(0), 10);
        p = c.run("{ a = 'q'. b = { }. c = zork }");
        c.world.sweep();
        Check.due("values of slots so far", c.world.count(0), 10 + 2 + 1 + 2);
        c.world.mend(p, 0);
        c.world.turn(1);
        c.world.sweep();
        p = c.run("[ 'first' ] ensure: [ zork ]");
        c.world.sweep();
        Check.due("the first's answer", c.world.count(0), 10 + 7);
        c.world.mend(p, 0);
        c.world.turn(1);
        Check.due("is there", c.string(c.world.answer(p, 0)), "first");
        c.world.sweep();
        p = c.run("[ ^ 'caret' ] ensure: [ zork ]");
        c.world.sweep();
        c.world.mend(p, 0);
        c.world.turn(1);
        Check.due("the value of a ^", c.string(c.world.answer(p, 0)), "caret");
        p = c.run("nil _Error: 'told'");
        c.world.sweep();
        Check.due("what its error tells", c.string(c.world.answer(p, 2)), "told");
        c.world.mend(p, 0);
        c.world.turn(1);
        c.world.sweep();
        p = c.tell("[ 'spawned' ] _Spawn");
        c.world.turn(1);
        int q = c.world.process(12, 0) == 0 ? 12 : 13;
        c.world.sweep();
        c.world.turn(9);
        Check.due("its block ahead of its activation", c.string(c.world.answer(q, 0)), "spawned");
        c.world.sweep();
        Check.due("all goes", c.world.count(0), 10);
        // A world that is full makes room by sweeps of its own.
        Check d = new Check(100);
        d.givesWhole("| n <- 0 | [ n > 300 ] whileFalse: [ { x <- 0 } x: n. n: n + 1 ]. n", 301);
        Check.due("sweeps", d.world.count(10) > 5, true);
    }

    private static void strings() {
        Check c = new Check(300);
        c.run("self _Slots: { a = 'abc'. b = 'ab' }");
        int a = (int) c.answer("a");
        c.gives("b , 'c'", a);
        c.gives("'abc' _Text", a);
        c.gives("'abc'", a);
        c.gives("'abc' = a", 1);
        c.world.hold((int) c.answer("'xyz'"), true);
        c.world.sweep();
        long x = c.answer("'xyz'");
        Check.due("one that lives", c.world.object((int) x, 3), 1);
        c.world.hold((int) x, false);
        c.world.sweep();
        Check.due("went", c.world.object((int) x, 0) == 1 && c.string(x).equals("xyz"), false);
    }

    private static void undoing() {
        Check c = new Check(300);
        Check.due("none", c.world.undo(), false);
        c.run("self _Slots: { a = { x <- 1. y = 2 } }");
        int a = (int) c.answer("a");
        c.run("a _Slots: { z = 3 }");
        c.run("a x: 9");
        Check.due("kept", c.world.count(6), 2);
        Check.due("undo", c.world.undo(), true);
        Check.due("two slots", c.world.object(a, 1), 2);
        Check.due("with what they held then", c.world.value(a, 0), W + 1);
        Check.due("undo", c.world.undo(), true);
        Check.due("lobby's slots", c.world.object(3, 1), 10);
        Check.due("no more", c.world.undo(), false);
        c.run("self _Slots: { a = { x = 1 }. b = { y = 2. z = 3 } }");
        a = (int) c.answer("a");
        int b = (int) c.answer("b");
        c.run("a _Become: b");
        Check.due("exchanged", c.world.object(a, 1), 2);
        Check.due("exchanged", c.world.object(b, 1), 1);
        c.world.undo();
        Check.due("both as they were", c.world.object(a, 1), 1);
        Check.due("both as they were", c.world.object(b, 1), 2);
        c.run("a _Take: 'x'. b _Define: a");
        Check.due("defined", c.world.object(b, 1), 0);
        c.world.undo();
        Check.due("defined no more", c.selector(b, 1), "z");
        c.world.undo();
        Check.due("taken no more", c.selector(a, 0), "x");
    }

    private static void keptChanges() {
        Check c = new Check(300);
        c.run("self _Slots: { n <- 0 }. n: { x <- 0 }. 1 to: 25 Do: [ | :i | n _Define: ({ x <- 0 } x: i) ]");
        Check.due("at most 20", c.world.count(6), 20);
        int n = (int) c.answer("n");
        for (int i = 24; i >= 5; i--) {
            Check.due("undo " + i, c.world.undo(), true);
            Check.due("x " + i, c.world.value(n, 0), W + i);
        }
        Check.due("no more", c.world.undo(), false);
        // What a kept change holds is reached: the object that was changed, and what it had.
        Check d = new Check(300);
        d.run("{ x = 'kept' } _Define: { }");
        d.world.sweep();
        Check.due("two stay", d.world.count(0), 12);
        d.world.undo();
        d.world.sweep();
        Check.due("they go", d.world.count(0), 10);
    }
}
