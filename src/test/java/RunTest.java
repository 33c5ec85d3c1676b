/** Promises 5 to 10: turn, process, answer, erred, frame, mend; and with them how bodies run. */
public final class RunTest {
    private static final long W = Check.WHOLE;

    public static void main(String[] arguments) {
        answers();
        cellsAndScopes();
        searching();
        directed();
        blocks();
        ensures();
        unknowns();
        errors();
        mending();
        roomAndDepth();
        frames();
        turns();
        wrongInputs();
        Check.end("RunTest");
    }

    private static void answers() {
        Check c = new Check(300);
        c.gives("", 0);
        c.givesWhole("1. 2", 2);
        c.givesWhole("^ 1. 2", 1);
        c.givesWhole("3 + 4 + 5", 12);
        c.givesWhole("2 * (3 + 4)", 14);
        c.givesWhole("- 5", -5);
        c.givesWhole("10 - -5", 15);
        c.gives("self", 3);
        c.gives("nil", 0);
        c.gives("true not", 2);
        c.gives("3 = 3", 1);
        c.gives("'a' = 'a'", 1);
        c.gives("3 > 4", 2);
        c.givesWhole("3 > 4 ifTrue: [ 1 ] False: [ 2 ]", 2);
        c.gives("true ifFalse: [ 3 ]", 0);
        c.gives("true and: [ false ]", 2);
        c.gives("false or: [ 7 ]", W + 7);
        c.givesString("'ab' , 'cd'", "abcd");
        c.givesString("'a\\nb\\'\\\\'", "a\nb'\\");
        c.givesWhole("'abc' size", 3);
        c.givesWhole("'abc' at: 1", 98);
        c.givesWhole("| s <- 0 | 1 to: 4 Do: [ | :i | s: s + i ]. s", 10);
        c.givesWhole("| s <- 0. v | v: (_Vector: 3 Fill: 5). v at: 1 Put: 7. v do: [ | :x | s: s + x ]. s", 17);
        c.givesWhole("{ x = 3. y <- 4. z } y", 4);
        c.gives("{ x = 3. y <- 4. z } z", 0);
    }

    private static void cellsAndScopes() {
        Check c = new Check(300);
        c.gives("| a | a", 0);
        c.givesWhole("| a <- 3 | a", 3);
        c.givesWhole("| a <- -3 | a", -3);
        c.gives("| a | a: 4", 3);
        c.givesWhole("| a | a: 4. a", 4);
        c.givesWhole("| a <- 1 | [ | a <- 2 | a: 5 ] value. a", 1);
        c.givesWhole("| a <- 1 | [ [ a: 5 ] value ] value. a", 5);
        c.givesWhole("| f | f: [ | n <- 0 | [ n: n + 1. n ] ] value. f value. f value", 2);
        // An argument is not changed: x: goes to self.
        c.stops("[ | :x | x: 3 ] value: 4", 1, "x:", 3, 1);
        // A slot's e and a method see no cells of what is around.
        c.stops("| q <- 3 | { y = q + 1 }", 1, "q", 3, 0);
        int p = c.run("| q <- 3 | { y = ( q ) } y");
        Check.due("no cell in a method: error", c.world.process(p, 4), 1);
        Check.due("no cell in a method: selector", c.erred(p), "q");
    }

    private static void searching() {
        Check c = new Check(300);
        c.run("self _Slots: { a = { parent* = lobby. x <- 1. foo = ( x + 1 ) } }");
        c.run("self _Slots: { b = { p* = a. q* = a. y = 2 }. k = { p* <- 5. q* = 'str' } }");
        c.givesWhole("b foo", 2);
        c.givesWhole("(b x: 7) foo", 8);
        c.givesWhole("a x", 7);
        c.gives("a x: 8", c.answer("a"));
        c.givesWhole("({ value <- 1. z <- 2 } value: 5) value", 5);
        c.givesWhole("({ value <- 1. z <- 2 } z: 6) z", 6);
        // Parents that are wholes or strings are searched from their traits.
        c.stops("k = 1", 2, "=", c.answer("k"), 1);
        c.givesWhole("(k _Same: 3) not ifTrue: [ 6 ]", 6);
        // What was met ahead gives nothing, so a ring of parents has an end.
        c.run("a _Slots: { up* = b }");
        c.givesWhole("b foo", 9);
        c.stops("b zork", 1, "zork", c.answer("b"), 0);
    }

    private static void directed() {
        Check c = new Check(300);
        c.run("self _Slots: { a = { parent* = lobby. x <- 1. foo = ( x + 1 ). put: n = ( x: n ) } }");
        c.run("self _Slots: { b = { parent* = a. foo = ( resend.foo + 10 ). bar = ( parent.foo ). "
            + "baz = ( nix.foo ). put: n = ( resend.put: n + n ). none = ( resend.zork ). "
            + "unknown: s With: v = ( 99 ) } }");
        c.givesWhole("b foo", 12);
        c.givesWhole("b bar", 2);
        c.givesWhole("(b put: 4) foo", 19);
        int b = (int) c.answer("b");
        c.stops("b baz", 1, "foo", b, 0);
        c.stops("b none", 1, "zork", b, 0);
        c.givesWhole("b zork", 99);
        // A slot that is no parent is none for TO.
        c.run("self _Slots: { d = { other = a. parent* = b. foo = ( resend.foo + 100 ). bar = ( other.foo ). up = ( resend.x ) } }");
        c.givesWhole("d foo", 119);
        c.stops("d bar", 1, "foo", c.answer("d"), 0);
        c.givesWhole("d up", 8);
        c.givesWhole("b foo: 1 Bar: 2", 99);
        // With TO a block answers nothing itself.
        c.run("block _Slots: { up = ( resend.value ) }");
        int p = c.run("[ 3 ] up");
        Check.due("blocks with TO", c.world.process(p, 4), 1);
        Check.due("blocks with TO: selector", c.erred(p), "value");
    }

    private static void blocks() {
        Check c = new Check(300);
        c.givesWhole("[ 3 ] value", 3);
        c.gives("[ ] value", 0);
        c.givesWhole("[ | :a | a ] value: 4", 4);
        c.givesWhole("[ | :a. :b | a - b ] value: 4 With: 1", 3);
        c.givesWhole("[ | :a. :b. :c | a - b - c ] value: 9 With: 1 With: 2", 6);
        c.run("self _Slots: { f = ( [ ^ 1 ] value. 2 ). g = ( [ ^ 5 ] ). h = { x = ( [ self ] value ) } }");
        c.givesWhole("f", 1);
        c.gives("h x", c.answer("h"));
        int p = c.run("g value. 7");
        Check.due("gone", c.world.process(p, 4), 5);
        Check.due("gone: selector", c.erred(p), "^");
        Check.due("gone: self at hand", c.world.answer(p, 1), 3);
        Check.due("gone: arguments", c.world.process(p, 6), 0);
        p = c.run("[ | :a | a ] value");
        Check.due("count", c.world.process(p, 4), 4);
        Check.due("count: selector", c.erred(p), "value");
        p = c.run("[ 3 ] value: 1 With: 2");
        Check.due("count", c.world.process(p, 4), 4);
        Check.due("count: arguments", c.world.process(p, 6), 2);
        c.givesWhole("{ x = [ ^ 4 ] value. y = 5 } x", 4);
        c.givesWhole("| n <- 0 | [ n > 4 ] whileFalse: [ n: n + 1 ]. n", 5);
        c.givesWhole("| n <- 0 | n: n + 1. n < 5 ifTrue: [ nil ] False: [ ^ n ]. _Restart", 5);
    }

    private static void ensures() {
        Check c = new Check(300);
        c.givesWhole("[ 3 ] ensure: [ 'x' _Print. 4 ]", 3);
        Check.due("both are done", c.fetched(), "x");
        c.givesWhole("[ [ [ ^ 1 ] ensure: [ 'a' _Print ] ] ensure: [ 'b' _Print ]. 9 ] value. 8", 1);
        Check.due("the latest first", c.fetched(), "ab");
        c.givesWhole("[ ^ 1 ] ensure: [ ^ 2 ]", 2);
        c.givesWhole("[ 1 ] ensure: [ ^ 2 ]", 2);
        c.givesWhole("[ [ ^ 1 ] ensure: [ ^ 2 ] ] ensure: [ 'c' _Print ]", 2);
        Check.due("a second ^", c.fetched(), "c");
        c.givesWhole("[ 3 ] ensure: { value = ( 'd' _Print ) }", 3);
        Check.due("b is any object", c.fetched(), "d");
        int p = c.run("[ 3 ] ensure: 5");
        Check.due("b has no value", c.world.process(p, 4), 1);
        Check.due("it went to b", c.world.answer(p, 1), W + 5);
        Check.due("mend", c.world.mend(p, 0), true);
        c.world.turn(1);
        Check.due("the first's answer", c.world.answer(p, 0), W + 3);
        p = c.tell("[ 3 ] ensure: [ 4 ]");
        Check.due("one unit", c.world.turn(1), 1);
        Check.due("what that began stays", c.world.process(p, 2), 2);
        Check.due("body of ensure:", c.world.frame(p, 0, 3), 4);
        Check.due("its holder", c.world.frame(p, 0, 2), 7);
        Check.due("its self", c.world.object(c.world.frame(p, 0, 1), 0), 3);
        Check.due("its cell", c.world.object(c.world.value(c.world.frame(p, 0, 0), 0) > 0 ? c.world.frame(p, 0, 0) : -1, 1), 1);
        Check.due("no unit more", c.world.turn(100), 0);
        Check.due("ended", c.world.answer(p, 0), W + 3);
        Check.due("units", c.world.process(p, 1), 1);
    }

    private static void unknowns() {
        Check c = new Check(300);
        c.run("self _Slots: { u = { unknown: s With: v = ( s _Print. v ) } }");
        int v = (int) c.answer("u foo: 3 Bar: 4");
        Check.due("selector", c.fetched(), "foo:Bar:");
        Check.due("arguments", c.world.object(v, 1), 2);
        Check.due("the first", c.world.value(v, 0), W + 3);
        Check.due("the second", c.world.value(v, 1), W + 4);
        v = (int) c.answer("u + 3");
        Check.due("sign", c.fetched(), "+");
        Check.due("one argument", c.world.object(v, 1), 1);
        int p = c.run("u foo");
        Check.due("units", c.world.process(p, 1), 3);
        c.run("self _Slots: { w = { p* = u. q* = { unknown: s With: v = ( 3 ) } } }");
        long w = c.answer("w");
        c.stops("w foo", 1, "foo", w, 0);
        c.stops("w unknown: 1 With: 2", 2, "unknown:With:", w, 2);
    }

    private static void errors() {
        Check c = new Check(300);
        c.stops("zork", 1, "zork", 3, 0);
        c.stops("4 zork: 5 Mork: 6", 1, "zork:Mork:", W + 4, 2);
        c.stops("nil foo", 1, "foo", 0, 0);
        c.stops("3 " + "+".repeat(60) + " 4", 1, "+".repeat(60), W + 3, 1);
        int p = c.stops("4 _Div: 0", 3, "_Div:", W + 4, 1);
        Check.due("reason", c.world.process(p, 5), 3);
        p = c.stops("4 _Zork: 0", 3, "_Zork:", W + 4, 1);
        Check.due("reason", c.world.process(p, 5), 10);
        p = c.stops("4 _Error: 6", 8, "_Error:", W + 4, 1);
        Check.due("told", c.world.answer(p, 2), W + 6);
        p = c.stops("4 _Error: 6 IfFail: 7", 8, "_Error:IfFail:", W + 4, 2);
        Check.due("told", c.world.answer(p, 2), W + 6);
        Check.due("no reason", c.world.process(p, 5), 0);
        p = c.run("3 _Add: nil IfFail: [ | :a. :b | 3 ]");
        Check.due("a block of two", c.world.process(p, 4), 4);
        Check.due("has one reason", c.world.process(p, 6), 1);
        Check.due("no value is told", c.world.answer(p, 2), 0);
        Check.due("another what", c.world.answer(p, 3), -1);
        Check.due("eight bytes", c.world.erred(p, 0), 0x76616C75653A0000L);
        Check.due("from 2 on", c.world.erred(p, 2), 0x6C75653A00000000L);
        Check.due("behind the end", c.world.erred(p, 6), 0);
        Check.due("below 0", c.world.erred(p, -1), 0);
        c.run("self _Slots: { a = { x = 1 }. b = { x = 2 } }. self _Slots: { c = { p* = a. q* = b } }");
        long o = c.answer("c");
        c.stops("c x", 2, "x", o, 0);
    }

    private static void mending() {
        Check c = new Check(300);
        int p = c.run("zork + 3");
        Check.due("mend", c.world.mend(p, W + 4), true);
        Check.due("ready", c.world.process(p, 0), 0);
        Check.due("no error", c.world.process(p, 4), 0);
        Check.due("nothing erred", c.world.erred(p, 0), 0);
        Check.due("no answer yet", c.world.answer(p, 0), 0);
        Check.due("nothing went", c.world.answer(p, 1), -1);
        c.world.turn(10);
        Check.due("goes on", c.world.answer(p, 0), W + 7);
        Check.due("not stopped", c.world.mend(p, W), false);
        p = c.run("1 + (2 zork: 3 Mork: 4)");
        c.world.mend(p, W + 9);
        c.world.turn(10);
        Check.due("arguments are gone", c.world.answer(p, 0), W + 10);
        p = c.run("[ 5 ] value + ([ | x | { m = ( [ ^ 8 ] ) } m ] value value)");
        Check.due("gone", c.world.process(p, 4), 5);
        c.world.mend(p, W + 2);
        c.world.turn(10);
        Check.due("the ^ is left out", c.world.answer(p, 0), W + 7);
        p = c.run("zork");
        Check.due("no such object", c.world.mend(p, 599), false);
        Check.due("no value", c.world.mend(p, W + (1L << 31)), false);
        Check.due("no value", c.world.mend(p, W - (1L << 31) - 1), false);
        Check.due("below 0", c.world.mend(p, -1), false);
        Check.due("still stopped", c.world.process(p, 0), 3);
        Check.due("the greatest whole", c.world.mend(p, W + Integer.MAX_VALUE), true);
        c.world.turn(1);
        Check.due("its answer", c.world.answer(p, 0), W + Integer.MAX_VALUE);
        p = c.run("zork");
        Check.due("the least whole", c.world.mend(p, W - (1L << 31)), true);
        c.world.turn(1);
        Check.due("its answer", c.world.answer(p, 0), W - (1L << 31));
        int other = c.tell("3");
        p = c.run("zork");
        int third = c.tell("4");
        c.world.mend(p, p);
        Check.due("at the end of the row", c.world.process(p, 3), 1);
        Check.due("behind this", c.world.process(third, 3), 0);
        Check.due("that one has ended", c.world.process(other, 0), 2);
    }

    private static void roomAndDepth() {
        Check c = new Check(300);
        c.run("self _Slots: { deep: n = ( n < 1 ifTrue: [ 0 ] False: [ 1 + (deep: n - 1) ] ). r = ( r ) }");
        int p = c.stops("r", 6, "r", 3, 0);
        Check.due("activations", c.world.process(p, 2), 60);
        c.world.mend(p, W + 5);
        c.world.turn(10);
        Check.due("as if it was through", c.world.answer(p, 0), W + 5);
        c.givesWhole("deep: 18", 18);
        p = c.run("deep: 19");
        Check.due("too deep", c.world.process(p, 4), 6);

        Check d = new Check(100);
        p = d.run("self _Slots: { k <- 0. c = { n <- 0 } }. [ true ] whileTrue: [ k: (c _Copy n: k) ]");
        Check.due("no room", d.world.process(p, 4), 7);
        Check.due("all live", d.world.count(0), 100);
        Check.due("sweeps", d.world.count(10) > 0, true);
        d.world.mend(p, 0);
        d.world.turn(50);
        Check.due("stopped again", d.world.process(p, 0), 3);

        // 99 objects live: the process takes the last number, so its activation has no room.
        Check e = new Check(100);
        for (int i = 0; i < 43; i++) {
            e.run("");
        }
        e.run("[ ]");
        for (int o = 10; o < 99; o++) {
            Check.due("held", e.world.hold(o, true), true);
        }
        Check.due("one is free", e.world.count(0), 99);
        p = e.stops("7", 7, "", 3, 0);
        Check.due("the last number", p, 99);
        Check.due("no activation", e.world.process(p, 2), 0);
        Check.due("no room for another", e.tell("8"), -3);
        Check.due("mended", e.world.mend(p, W + 5), true);
        Check.due("no unit", e.world.turn(10), 0);
        Check.due("as if it was through", e.world.answer(p, 0), W + 5);
    }

    private static void frames() {
        Check c = new Check(300);
        c.run("self _Slots: { a = { m = ( { x = [ zork ] value } ) } }");
        int a = (int) c.answer("a");
        int p = c.run("a m");
        Check.due("activations", c.world.process(p, 2), 4);
        int[] kinds = {2, 3, 1, 0};
        int[] selfs = {3, 3, a, 3};
        int[] holders = {3, 3, a, 3};
        for (int i = 0; i < 4; i++) {
            Check.due("body " + i, c.world.frame(p, i, 3), kinds[i]);
            Check.due("self " + i, c.world.frame(p, i, 1), selfs[i]);
            Check.due("holder " + i, c.world.frame(p, i, 2), holders[i]);
            Check.due("object " + i, c.world.object(c.world.frame(p, i, 0), 0), 4);
            Check.due("another what", c.world.frame(p, i, 4), -1);
        }
        Check.due("no more", c.world.frame(p, 4, 0), -1);
        Check.due("below 0", c.world.frame(p, -1, 0), -1);
        p = c.run("3 + nil");
        Check.due("self is a whole", c.world.frame(p, 0, 1), -1);
        Check.due("its holder", c.world.frame(p, 0, 2), 4);
    }

    private static void turns() {
        Check c = new Check(300);
        Check.due("below 0", c.world.turn(-1), -1);
        Check.due("above 3000", c.world.turn(3001), -1);
        Check.due("nothing is ready", c.world.turn(3000), 0);
        int p = c.tell("3 + 4");
        Check.due("not at work yet", c.world.process(p, 2), 0);
        Check.due("no unit", c.world.turn(0), 0);
        Check.due("nothing was done", c.world.process(p, 2), 0);
        Check.due("one", c.world.turn(1), 1);
        Check.due("the method has begun", c.world.process(p, 2), 2);
        Check.due("its place", c.world.process(p, 3), 0);
        Check.due("one more", c.world.turn(1), 1);
        Check.due("still there", c.world.process(p, 0), 0);
        Check.due("nothing is left but its end", c.world.turn(1), 0);
        Check.due("ended", c.world.process(p, 0), 2);
        Check.due("units", c.world.process(p, 1), 2);
        Check.due("no activation", c.world.process(p, 2), 0);
        Check.due("no place", c.world.process(p, 3), -1);
        Check.due("answer", c.world.answer(p, 0), W + 7);
        Check.due("units in all", c.world.count(3), 2);
    }

    private static void wrongInputs() {
        Check c = new Check(300);
        int p = c.run("zork");
        int[] none = {-1, 0, 9, 599, 600, 601, Integer.MAX_VALUE, Integer.MIN_VALUE};
        for (int o : none) {
            for (int what = -1; what < 9; what++) {
                Check.due("process " + o, c.world.process(o, what), -1);
                Check.due("answer " + o, c.world.answer(o, what), -1);
                Check.due("frame " + o, c.world.frame(o, 0, what), -1);
            }
            Check.due("erred " + o, c.world.erred(o, 0), 0);
            Check.due("mend " + o, c.world.mend(o, 0), false);
        }
        Check.due("another what", c.world.process(p, 7), -1);
        Check.due("another what", c.world.process(p, -1), -1);
        Check.due("from the greatest on", c.world.erred(p, Integer.MAX_VALUE), 0);
    }
}
