/** The boundary cases of processes, semaphores and sweeps, sentence by sentence. */
public final class EdgeProcessTest {
    private static final long W = Check.WHOLE;

    public static void main(String[] arguments) {
        units();
        goes();
        yields();
        spawning();
        values();
        semaphores();
        waiting();
        mended();
        rootsOfSweeps();
        processesInSweeps();
        workingOut();
        Check.end("EdgeProcessTest");
    }

    private static void unitsOf(String text, int want) {
        Check c = new Check(300);
        c.run("self _Slots: { k <- 0. u = { unknown: s With: v = ( 3 ) } }");
        int p = c.run(text);
        Check.due("units of " + text, c.world.process(p, 1), want);
    }

    private static void units() {
        Check.sentence("A UNIT is a message that is sent (also acts, messages of the kernel; "
            + "not what unknown:With:, a reason, _Perform, ensure: pass on)");
        unitsOf("", 0);
        unitsOf("3", 0);
        unitsOf("'a'. [ ]. { x = 3 }. self. (4)", 0);
        unitsOf("| a | a: 3. a", 0);
        unitsOf("nil", 1);
        unitsOf("{ x = nil }", 1);
        unitsOf("3 _Add: 4", 1);
        unitsOf("3 + 4", 2);
        unitsOf("k: 3", 1);
        unitsOf("[ 3 ] value", 1);
        unitsOf("3 zork", 1);
        unitsOf("3 _Zork", 1);
        unitsOf("u zork", 2);
        unitsOf("3 _SizeIfFail: [ | :r | 4 ]", 1);
        unitsOf("3 _Perform: '+' With: (_Vector: 1 Fill: 4)", 3);
        unitsOf("3 _Perform: '_Add:' With: (_Vector: 1 Fill: 4)", 2);
        unitsOf("[ 3 ] ensure: [ 4 ]", 1);
        unitsOf("[ ^ 3 ] ensure: [ 4 ]", 1);
        unitsOf("resend.zork", 1);
        unitsOf("1 to: 0 Do: [ | :i | i ]", 8);
    }

    private static void goes() {
        Check.sentence("Behind its 10th unit in one go (over turn()s), or _Yield, it is the last of the row");
        for (int cut = 0; cut <= 10; cut++) {
            Check c = new Check(100);
            int a = c.tell("self" + " lobby".repeat(12));
            int b = c.tell("self" + " lobby".repeat(12));
            c.world.turn(cut);
            c.world.turn(9 - Math.min(9, cut));
            Check.due("first", c.world.process(a, 3), cut < 10 ? 0 : 1);
            c.world.turn(cut < 10 ? 1 : 0);
            Check.due("last", c.world.process(a, 3), 1);
            Check.due("the other", c.world.process(b, 3), 0);
            c.world.turn(10);
            Check.due("ten", c.world.process(b, 1), 10);
            Check.due("first again", c.world.process(a, 3), 0);
            c.world.turn(2);
            Check.due("two", c.world.process(a, 1), 12);
            Check.due("not ended", c.world.process(a, 0), 0);
            Check.due("two of the other", c.world.turn(3000), 2);
        }
        Check one = new Check(100);
        int p = one.tell("self" + " lobby".repeat(10));
        one.world.turn(10);
        Check.due("alone in the row", one.world.process(p, 3), 0);
        Check.due("ready", one.world.process(p, 0), 0);
        int q = one.tell("lobby");
        Check.due("the first still", one.world.process(p, 3), 0);
        Check.due("ends ahead of the other", one.world.turn(1), 1);
        Check.due("ended", one.world.process(p, 0), 2);
        Check.due("the other", one.world.process(q, 1), 1);
        Check.sentence("Or it waits, ends or is stopped: the next one has a go of its own");
        for (String ahead : new String[] {"zork", "(_Semaphore: 0) _Wait", "lobby", "nil _Div: 0", "[ ^ 3 ] _Spawn _Value", "lobby lobby lobby"}) {
            Check c = new Check(100);
            c.tell(ahead);
            int a = c.tell("self" + " lobby".repeat(12));
            c.tell("self" + " lobby".repeat(12));
            for (int k = 0; k < 20 && c.world.process(a, 1) < 9; k++) {
                c.world.turn(1);
            }
            Check.due("nine units: the first", c.world.process(a, 3), 0);
            c.world.turn(1);
            Check.due("ten units: not the first", c.world.process(a, 3) > 0, true);
        }
    }

    private static void yields() {
        Check.sentence("_Yield: to anything; it is the last of the row, and its next go has ten units again");
        Check c = new Check(100);
        int a = c.tell("3 _Yield" + " _Yield" + " lobby".repeat(12));
        int b = c.tell("self" + " lobby".repeat(30));
        c.world.turn(1);
        Check.due("last", c.world.process(a, 3), 1);
        c.world.turn(10);
        Check.due("first", c.world.process(a, 3), 0);
        c.world.turn(1);
        Check.due("last", c.world.process(a, 3), 1);
        c.world.turn(10);
        c.world.turn(9);
        Check.due("nine", c.world.process(a, 3), 0);
        c.world.turn(1);
        Check.due("ten", c.world.process(a, 3), 1);
        Check.due("the other", c.world.process(b, 1), 20);
        Check d = new Check(100);
        a = d.tell("self" + " lobby".repeat(9) + " _Yield lobby");
        b = d.tell("self" + " lobby".repeat(3));
        d.world.turn(10);
        Check.due("as the 10th unit: once", d.world.process(a, 3), 1);
        Check.due("the other is first", d.world.process(b, 3), 0);
        d.givesWhole("7 _Yield", 7);
        d.gives("nil _Yield", 0);
        d.givesWhole("7 _YieldIfFail: 3", 7);
    }

    private static void spawning() {
        Check.sentence("_Spawn: to a block without arguments (count): a new process that works it out (full: 12 are not ended)");
        Check c = new Check(300);
        c.givesString("[ | :a | 3 ] _SpawnIfFail: [ | :r | r ]", "count");
        c.givesString("[ | :a. :b. :c. :d. :e. :f. :g. :h | 3 ] _SpawnIfFail: [ | :r | r ]", "count");
        c.givesString("3 _SpawnIfFail: [ | :r | r ]", "type");
        Check.due("with cells", c.world.answer((int) c.answer("[ | a <- 4 | a ] _Spawn"), 0), W + 4);
        Check.due("empty", c.world.process((int) c.answer("[ ] _Spawn"), 0), 2);
        c.run("1 to: 10 Do: [ | :i | [ zork ] _Spawn ]");
        Check.due("ten", c.world.count(4), 10);
        int p = c.tell("[ 3 ] _Spawn. [ 4 ] _SpawnIfFail: [ | :r | r ]");
        c.world.turn(1);
        Check.due("twelve", c.world.count(4), 12);
        c.world.turn(1);
        Check.due("no more", c.world.count(4), 12);
        c.world.turn(3000);
        Check.due("full", c.string(c.world.answer(p, 0)), "full");
        Check.due("ten", c.world.count(4), 10);
        c.run("[ zork ] _Spawn");
        p = c.tell("[ | :a | 3 ] _SpawnIfFail: [ | :r | r ]");
        c.world.turn(3000);
        Check.due("count ahead of full", c.string(c.world.answer(p, 0)), "count");
        int stopped = c.tell("[ 4 ] _Spawn");
        c.world.turn(3000);
        Check.due("full", c.world.process(stopped, 5), 7);
        Check.sentence("Its activation is made when it is first at work, as those of _Spawn");
        Check d = new Check(300);
        p = d.tell("[ 3 ] _Spawn");
        Check.due("none", d.world.count(11), 0);
        d.world.turn(1);
        Check.due("the text's", d.world.count(11), 1);
        d.world.turn(1);
        Check.due("both", d.world.count(11), 2);
        Check.due("ended", d.world.answer((int) d.world.answer(p, 0), 0), W + 3);
    }

    private static void values() {
        Check.sentence("_Value: to a process: its answer; one WAITS till it has ended");
        Check c = new Check(300);
        c.run("self _Slots: { q <- 0 }. q: [ 5 ] _Spawn. q _Value");
        int units = c.world.count(3);
        c.givesWhole("q _Value", 5);
        Check.due("one that has ended", c.world.count(3), units + 2);
        c.run("q: [ zork ] _Spawn");
        int a = c.run("q _Value + 1");
        int b = c.run("q value + 2");
        Check.due("waits", c.world.process(a, 0), 1);
        Check.due("waits", c.world.process(b, 0), 1);
        Check.due("none is ready", c.world.count(5), 0);
        Check.due("three are not ended", c.world.count(4), 3);
        int q = (int) c.world.value(3, 10);
        c.world.mend(q, W + 7);
        Check.due("three units: two adds, with an act each", c.world.turn(3000), 4);
        Check.due("answer", c.world.answer(a, 0), W + 8);
        Check.due("answer", c.world.answer(b, 0), W + 9);
        int own = c.run("zork _Value");
        c.world.mend(own, own);
        Check.due("one unit", c.world.turn(3000), 1);
        Check.due("of itself: waits for ever", c.world.process(own, 0), 1);
    }

    private static void semaphores() {
        Check.sentence("_Semaphore: n: a new one with n SIGNALS (0 .. 1000, index)");
        Check c = new Check(300);
        for (String n : new String[] {"-1", "1001", "2147483647", "-2147483647"}) {
            c.givesString("_Semaphore: " + n + " IfFail: [ | :r | r ]", "index");
        }
        Check.due("none", c.world.object((int) c.answer("_Semaphore: 0"), 1), 0);
        Check.due("all", c.world.object((int) c.answer("3 _Semaphore: 1000"), 1), 1000);
        Check.sentence("_Signal: the one that waits longest goes on, or one signal more (overflow above 1000)");
        c.givesString("(_Semaphore: 1000) _SignalIfFail: [ | :r | r ]", "overflow");
        c.run("self _Slots: { s <- 0 }. s: (_Semaphore: 999)");
        int s = (int) c.world.value(3, 10);
        c.gives("s signal", s);
        Check.due("1000", c.world.object(s, 1), 1000);
        c.errs("s signal", 3, "_Signal", 0);
        Check.due("1000 still", c.world.object(s, 1), 1000);
        c.gives("s wait", s);
        Check.due("999", c.world.object(s, 1), 999);
        for (String none : new String[] {"3", "nil", "'a'", "[ ]", "lobby"}) {
            c.givesString(none + " _WaitIfFail: [ | :r | r ]", "type");
            c.givesString(none + " _SignalIfFail: [ | :r | r ]", "type");
            c.givesString(none + " _ValueIfFail: [ | :r | r ]", "type");
        }
    }

    private static void waiting() {
        Check.sentence("_Wait: one signal less; with none one WAITS, behind those who do");
        Check c = new Check(300);
        c.run("self _Slots: { s <- 0 }. s: (_Semaphore: 1)");
        int s = (int) c.world.value(3, 10);
        c.gives("s wait", s);
        int[] waits = new int[11];
        for (int i = 0; i < 11; i++) {
            waits[i] = c.run("s wait. '" + (char) ('a' + i) + "' _Print");
            Check.due("waits", c.world.process(waits[i], 0), 1);
        }
        Check.due("no signal", c.world.object(s, 1), 0);
        Check.due("eleven", c.world.count(4), 11);
        c.run("s signal. s signal. s signal");
        Check.due("in order", c.fetched(), "abc");
        Check.due("the third has ended", c.world.process(waits[2], 0), 2);
        Check.due("the fourth waits", c.world.process(waits[3], 0), 1);
        Check.sentence("One that need not wait any more comes to the end of the row");
        int t = c.tell("s _Signal. s _Signal. 3");
        int u = c.tell("4");
        c.world.turn(2);
        Check.due("at the end", c.world.process(waits[3], 3), 2);
        Check.due("ahead of it", c.world.process(u, 3), 1);
        Check.due("at work", c.world.process(t, 3), 0);
        c.world.turn(2);
        Check.due("the next", c.world.process(waits[4], 3), 3);
        c.world.turn(3000);
        Check.due("in order", c.fetched(), "de");
        Check.due("no signal", c.world.object(s, 1), 0);
        c.run("1 to: 7 Do: [ | :i | s signal ]");
        Check.due("the rest", c.fetched(), "fghijk");
        Check.due("one is left", c.world.object(s, 1), 1);
    }

    private static void mended() {
        Check.sentence("MENDED, a stopped one goes to the end of the row as if what erred had answered a value");
        Check c = new Check(300);
        String[] texts = {"9 - zork", "9 - (3 foo: 1 Bar: 2)", "9 - (3 _Div: 0)", "9 - (3 _Error: 5)", "9 - (3 _SizeIfFail: 5)",
            "9 - (3 _Perform: 'foo' With: (_Vector: 0 Fill: 0))", "9 - ([ | :a | a ] value)", "9 - resend.foo"};
        for (String text : texts) {
            int p = c.run(text);
            Check.due(text, c.world.process(p, 0), 3);
            c.world.mend(p, W + 4);
            c.world.turn(3000);
            Check.due(text, c.world.answer(p, 0), W + 5);
        }
        Check.sentence("GONE: the ^ is left out");
        c.run("self _Slots: { m = ( [ ^ 3 ] ) }");
        int p = c.run("9 - ([ m value. 1 ] value)");
        c.world.mend(p, W + 4);
        c.world.turn(3000);
        Check.due("its body goes on", c.world.answer(p, 0), W + 8);
        p = c.run("9 - ([ | :b | b value ] value: m)");
        c.world.mend(p, W + 4);
        c.world.turn(3000);
        Check.due("the last statement's value", c.world.answer(p, 0), W + 5);
    }

    private static void rootsOfSweeps() {
        Check.sentence("SWEEP: Reached are objects 0 to 9, HELD ones");
        Check c = new Check(300);
        Check.due("nothing goes", c.world.sweep(), 0);
        int v = (int) c.answer("_Vector: 60 Fill: [ 3 ]");
        c.world.hold(v, true);
        Check.due("the process goes: a block has its home", c.world.sweep(), 1);
        Check.due("vector, block, home", c.world.count(0), 13);
        c.world.hold(v, false);
        Check.due("all three", c.world.sweep(), 3);
        Check.sentence("SWEEP: what kept changes hold");
        Check d = new Check(300);
        d.run("self _Slots: { a <- { x = 'one' } }");
        d.run("self _Take: 'a'");
        d.world.sweep();
        Check.due("object and string", d.world.count(0), 12);
        for (int k = 0; k < 19; k++) {
            d.run("self _Slots: { }");
        }
        d.world.sweep();
        Check.due("kept as the 20th", d.world.count(0), 12);
        d.run("self _Slots: { }");
        d.world.sweep();
        Check.due("no longer", d.world.count(0), 10);
        Check n = new Check(300);
        n.run("nil _Define: { s = 'abc' }. nil _Define: { }");
        n.world.sweep();
        Check.due("of nil, too", n.world.count(0), 11);
        n.world.undo();
        Check.due("its slot again", n.string(n.world.value(0, 0)), "abc");
        Check.sentence("SWEEP: of a plain one the values; of a vector the elements");
        Check e = new Check(300);
        e.run("self _Slots: { a <- { x = 'one'. y <- (_Vector: 2 Fill: 'two'). m = ( 'three' ) } }. a m");
        for (int k = 0; k < 20; k++) {
            e.world.undo();
        }
        e.run("self _Slots: { a <- { x = 'one'. y <- (_Vector: 2 Fill: 'two'). m = ( 'three' ) } }. a m");
        e.world.sweep();
        Check.due("object, two strings, vector; not a method's", e.world.count(0), 14);
        e.run("a: nil");
        e.world.sweep();
        Check.due("none", e.world.count(0), 10);
    }

    private static void processesInSweeps() {
        Check.sentence("SWEEP: processes that are not ended; of a process its activations, its block ahead of that, its answer");
        Check c = new Check(300);
        int p = c.tell("'abc'");
        Check.due("ready", c.world.sweep(), 0);
        c.world.turn(1);
        Check.due("ended: process, activation, answer", c.world.sweep(), 3);
        p = c.tell("[ 'abc' ] _Spawn");
        c.world.turn(1);
        Check.due("the block", c.world.sweep(), 0);
        Check.due("process, activation, block, process", c.world.count(0), 14);
        c.world.turn(1);
        int q = (int) c.world.answer(p, 0);
        c.world.hold(q, true);
        Check.due("text's process and activation, block and its activation go", c.world.sweep(), 4);
        Check.due("the answer stays", c.string(c.world.answer(q, 0)), "abc");
        c.world.hold(q, false);
        Check.due("both go", c.world.sweep(), 2);
        p = c.run("(_Semaphore: 0) _Wait");
        Check.due("who waits has let the semaphore go", c.world.sweep(), 1);
        Check.due("waits for ever", c.world.process(p, 0), 1);
        Check.sentence("SWEEP: an answer that a process was given by mend()");
        Check g = Check.almostFull("3", 1);
        int given = g.world.process(10, 0) >= 0 ? 10 : 11;
        int text = g.run("3");
        Check.due("ROOM", g.world.process(text, 4), 7);
        Check.due("mend", g.world.mend(text, given), true);
        g.world.hold(given, false);
        Check.due("stays", g.world.sweep(), 0);
        g.world.turn(1);
        Check.due("its answer", g.world.answer(text, 0), given);
        Check.due("both go", g.world.sweep(), 2);
        Check.sentence("SWEEP: what is not reached goes, whatever had its number ahead of it");
        Check h = new Check(100);
        Check.due("string 12, vector 13", h.answer("_Vector: 1 Fill: 'abc'"), 13);
        Check.due("all go", h.world.sweep(), 4);
        h.run("zork");
        Check.due("a process", h.run("3"), 12);
        h.world.hold(12, true);
        Check.due("13 goes", h.world.sweep(), 1);
        Check.due("a process that is not ended", h.run("zork"), 13);
        h.world.hold(12, false);
        Check.due("12 goes", h.world.sweep(), 1);
        Check.sentence("SWEEP: of an activation self, holder, cells, and, of a block's, the home");
        Check f = new Check(300);
        int m = f.run("| o | o: { p* <- { q* = { x = 'deep' }. m = ( p: 0. _Error: 1. resend.x ) } }. o m");
        Check.due("told", f.world.process(m, 4), 8);
        f.world.sweep();
        Check.due("process, two activations, o, holder, its parent, string", f.world.count(0), 10 + 7);
        f.world.mend(m, 0);
        f.world.turn(10);
        Check.due("the holder's parent", f.string(f.world.answer(m, 0)), "deep");
        f.world.sweep();
        m = f.run("| b | b: [ | c | c: 'in'. [ zork. c ] ] value. b value");
        f.world.sweep();
        f.finish(m);
        Check.due("a cell of its home", f.string(f.world.answer(m, 0)), "in");
        Check.sentence("SWEEP: its block ahead of that (not if it is stopped)");
        Check d = Check.almostFull("3", 4);
        p = d.tell("[ 3 ] _Spawn. _Vector: 0 Fill: 0");
        d.world.turn(1);
        Check.due("four more", d.world.count(0), 100);
        d.world.turn(3000);
        Check.due("both are stopped by ROOM", d.world.count(4), 2);
        Check.due("the block goes", d.world.sweep(), 1);
        Check.due("nothing more", d.world.sweep(), 0);
    }

    /** Behind this text, which is stopped by zork, so many objects live beside the process and its activation. */
    private static void live(String text, int want) {
        Check c = new Check(300);
        int p = c.run(text);
        Check.due(text + ": selector", c.erred(p), "zork");
        c.world.sweep();
        Check.due(text + ": live", c.world.count(0) - 10 - 1 - c.world.process(p, 2), want);
    }

    private static void workingOut() {
        Check.sentence("SWEEP: what it is working out: what a message goes to and arguments so far (till an act is done, or waits)");
        live("zork", 0);
        live("'a' foo: zork", 1);
        live("'a' foo: 'b' Bar: zork", 2);
        live("'a' , ('b' , zork)", 2);
        live("'a'. 'b'. zork", 0);
        live("'a' _Join: zork", 1);
        live("'a' _Size. zork", 0);
        live("('a' _Join: 'b') _Join: zork", 1);
        live("[ 3 ] foo: zork", 1);
        live("| x | x: 'a'. zork", 1);
        live("| x | x: zork", 0);
        Check.sentence("SWEEP: values of slots of an { } so far");
        live("{ a = 'a'. b = zork }", 1);
        live("{ a = 'a'. b = { c = 'c'. d = zork } }", 2);
        live("{ a = zork. b = 'b' }", 0);
        live("{ a = 'a' }. zork", 0);
        Check.sentence("SWEEP: the first's answer while ensure: works b, the value of a ^ that waits for that");
        live("[ 'a' ] ensure: [ zork ]", 3);
        live("[ ^ 'a' ] ensure: [ zork ]", 3);
        live("[ 'a'. 3 ] ensure: [ zork ]", 2);
        live("[ zork ] ensure: [ 3 ]", 2);
    }
}
