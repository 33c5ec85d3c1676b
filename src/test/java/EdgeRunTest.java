/** The boundary cases of objects, the search, running and blocks, and of promises 5 to 10, sentence by sentence. */
public final class EdgeRunTest {
    private static final long W = Check.WHOLE;
    private static final int[] NO_PROCESS = {-1, 0, 9, 99, 100, 600, Integer.MAX_VALUE, Integer.MIN_VALUE};
    /** r: n goes n and one deep without any other activation: at 0 it goes to an assignable slot. */
    private static final String DEEP = "self _Slots: { v <- 0. r: n = ( (v _At: n) r: (n _Sub: 1) ) }. "
        + "v: (_Vector: 60 Fill: lobby). v _At: 0 Put: { r <- 5 }";

    public static void main(String[] arguments) {
        numbers();
        full();
        likeStrings();
        atFirst();
        search();
        bodies();
        cells();
        values();
        directed();
        counts();
        gone();
        ensures();
        unknowns();
        depth();
        turn();
        process();
        answer();
        erred();
        frame();
        mend();
        Check.end("EdgeRunTest");
    }

    private static void numbers() {
        Check.sentence("Objects, numbered from 0 on; a new one gets the lowest number that is free");
        Check c = new Check(100);
        Check.due("process", c.run("3"), 10);
        Check.due("its activation is 11", c.run("4"), 12);
        c.world.hold(11, true);
        Check.due("three go", c.world.sweep(), 3);
        Check.due("the lowest", c.run("5"), 10);
        Check.due("11 is taken, 12 its activation's", c.run("6"), 13);
    }

    private static void full() {
        Check.sentence("When one more is to be made there is a SWEEP ahead of it, and if there are N still, the error ROOM");
        Check two = Check.almostFull("3", 2);
        int sweeps = two.world.count(10);
        two.givesWhole("3", 3);
        Check.due("N live", two.world.count(0), 100);
        Check.due("no sweep", two.world.count(10), sweeps);
        two.givesWhole("4", 4);
        Check.due("a sweep ahead of the process", two.world.count(10), sweeps + 1);
        Check.due("N live", two.world.count(0), 100);
        two.stops("[ ]", 7, "", 3, 0);
        Check one = Check.almostFull("3", 1);
        sweeps = one.world.count(10);
        int p = one.stops("5 foo: 6", 7, "", 3, 0);
        Check.due("no activation", one.world.process(p, 2), 0);
        Check.due("a sweep ahead of it", one.world.count(10), sweeps + 1);
        Check.due("N live", one.world.count(0), 100);
        Check none = Check.almostFull("3", 0);
        Check.due("no room for a process", none.tell("3"), -3);
        Check.due("none", none.world.count(4), 0);
        Check.sentence("Of literals: no selector, no arguments, the self at hand");
        for (String literal : new String[] {"[ ]", "'abc'", "{ }", "{ x = lobby }", "4 + [ ]"}) {
            Check c = Check.almostFull("self _Slots: { o = { parent* = lobby. m = ( 3 _Add: 4. " + literal + " ) } }", 3);
            int o = (int) c.world.value(3, 10);
            c.stops("o m", 7, "", o, 0);
        }
    }

    private static void likeStrings() {
        Check.sentence("A string with like bytes as one that lives is that one");
        Check c = Check.almostFull("self _Slots: { s = 'abc'. e = '' }", 2);
        long s = c.answer("s");
        int sweeps = c.world.count(10);
        c.gives("'abc'", s);
        Check.due("a sweep for the process alone", c.world.count(10), sweeps + 1);
        c.gives("'abc' _Text", s);
        c.gives("'abc' _Join: ''", s);
        c.gives("''", c.answer("e"));
        c.stops("'abd'", 7, "", 3, 0);
        Check d = new Check(100);
        long gone = d.answer("'xyz'");
        d.gives("'xyz'", gone);
        Check.due("one that nothing reaches lives, too", d.world.object((int) gone, 0), 1);
        d.world.sweep();
        Check.due("no longer", d.world.object((int) gone, 0), -1);
        Check many = new Check(400);
        many.run("self _Slots: { v <- nil. w <- nil. x <- nil }. v: (_Vector: 60 Fill: 0). w: v _Copy. x: v _Copy. "
            + "0 to: 59 Do: [ | :i | v at: i Put: i _Text. w at: i Put: (i * 7919) _Text. x at: i Put: ('q' , i _Text) ]");
        String same = "| n <- 0 | 0 to: 59 Do: [ | :i | (v at: i) = i _Text ifTrue: [ n: n + 1 ]. (w at: i) = (i * 7919) _Text ifTrue: [ n: n + 1 ]. "
            + "(x at: i) = ('q' , i _Text) ifTrue: [ n: n + 1 ] ]. n";
        many.givesWhole(same, 180);
        many.world.sweep();
        many.givesWhole(same, 180);
    }

    private static void atFirst() {
        Check.sentence("Objects 0 to 9, plain ones that are always there; lobby has at first, as constants in this order ..");
        Check c = new Check(100);
        String[] names = "nil true false lobby whole string vector block process semaphore".split(" ");
        int[] slots = {0, 7, 7, 10, 10, 5, 5, 3, 2, 3};
        for (int o = 0; o < 10; o++) {
            Check.due("sort of " + o, c.world.object(o, 0), 0);
            Check.due("slots of " + o, c.world.object(o, 1), slots[o]);
            Check.due("lobby's slot", c.selector(3, o), names[o]);
            Check.due("its kind", c.world.slot(3, o), 0);
            Check.due("its value", c.world.value(3, o), o);
        }
        Check.due("always there", c.world.sweep(), 0);
        c.run("self _Define: { }");
        c.world.undo();
        c.run("lobby _Define: { }");
        for (int k = 0; k < 20; k++) {
            c.run("_Define: { }");
        }
        c.world.sweep();
        for (int o = 0; o < 10; o++) {
            Check.due("though nothing has it", c.world.object(o, 0), 0);
        }
        Check.sentence("The START of a plain object is that, of an activation nil, of all others their traits");
        Check d = new Check(100);
        String[] all = {"nil", "true", "3", "'a'", "(_Vector: 0 Fill: 0)", "[ ]", "([ 3 ] _Spawn)", "(_Semaphore: 0)"};
        int[] starts = {0, 1, 4, 5, 6, 7, 8, 9};
        d.run("nil _Slots: { mark = 10 }. true _Slots: { mark = 11 }. whole _Slots: { mark = 14 }. string _Slots: { mark = 15 }. "
            + "vector _Slots: { mark = 16 }. block _Slots: { mark = 17 }. process _Slots: { mark = 18 }. semaphore _Slots: { mark = 19 }");
        for (int i = 0; i < all.length; i++) {
            d.givesWhole(all[i] + " mark", 10 + starts[i]);
        }
        int p = d.run("zork mark");
        Check.due("an activation as a value", d.world.mend(p, d.world.frame(p, 0, 0)), true);
        d.world.turn(10);
        Check.due("is searched from nil", d.world.answer(p, 0), W + 10);
    }

    private static void search() {
        Check.sentence("One that was met ahead in this search gives nothing");
        Check c = new Check(300);
        c.run("self _Slots: { a = { p* <- nil. x = 1 }. b = { p* <- nil } }. a p: b. b p: a");
        c.givesWhole("b x", 1);
        c.stops("b zork", 1, "zork", c.answer("b"), 0);
        c.givesWhole("{ p* = a. q* = a. r* = b } x", 1);
        c.run("a p: a");
        c.stops("a zork", 1, "zork", c.answer("a"), 0);
        Check.sentence("One with a slot for it gives that (its parents are not searched)");
        c.givesWhole("{ p* = a. x = 2. q* = a } x", 2);
        c.givesWhole("{ x* = { x = 7 } } x x", 7);
        Check.sentence("What is found is NONE, one, or AMBIGUOUS");
        c.run("self _Slots: { b = { x = 4 } }");
        c.errs("{ p* = a. q* = b } x", 2, "x", 0);
        c.errs("{ p* = b. q* = { r* = a } } x", 2, "x", 0);
        c.givesWhole("{ p* = a. q* = { y = 6 } } x", 1);
        c.givesWhole("{ p* = a. q* = { y = 6 } } y", 6);
        c.errs("{ } x: 3", 1, "x:", 1);
        c.errs("{ p* = nil } x", 1, "x", 0);
        Check.sentence("A slot is for its selector, an assignable one x for x: , too");
        c.givesWhole("({ x <- 1 } x: 2) x", 2);
        c.errs("{ x = 1 } x: 2", 1, "x:", 1);
        c.errs("{ x = ( 1 ) } x: 2", 1, "x:", 1);
        c.errs("{ x <- 1 } x: 2 Y: 3", 1, "x:Y:", 2);
        c.run("self _Slots: { base = { x <- 1 } }. self _Slots: { kid = { p* = base } }. kid x: 8");
        c.givesWhole("base x", 8);
        c.errs("zip: 3", 1, "zip:", 1);
        c.givesWhole("({ zip <- 1 } zip: 2) zip", 2);
    }

    private static void bodies() {
        Check.sentence("The answer is the last one's value (nil without one), or that of one with ^");
        Check c = new Check(300);
        c.gives("", 0);
        c.gives("| a <- 3 |", 0);
        c.gives("[ ] value", 0);
        c.gives("[ | :a | ] value: 3", 0);
        c.givesWhole("3. 4", 4);
        c.givesWhole("3. ^ 4. 5", 4);
        c.givesWhole("{ m = ( 3. ^ 4. 5 ) } m", 4);
        Check.sentence("A slot's e, unless it is a NUMBER (or - NUMBER) or STRING alone, is a body by itself");
        String[] values = {"3", "-3", "- 3", "'a'", "3 + 4", "(3)", "('a')", "nil", "[ ]", "{ }", "-3 _Text", "'a' _Size"};
        int[] made = {0, 0, 0, 0, 2, 1, 1, 1, 1, 1, 1, 1};
        for (int i = 0; i < values.length; i++) {
            for (String sign : new String[] {" <- ", "* = "}) {
                int before = c.world.count(11);
                c.run("{ x" + sign + values[i] + " }");
                Check.due("activations of x" + sign + values[i], c.world.count(11) - before, made[i] + 1);
            }
        }
        Check d = new Check(300);
        int before = d.world.count(11);
        d.run("{ x. y*. m = ( 3 ) }");
        Check.due("no e, no body", d.world.count(11) - before, 1);
        d.gives("{ x = [ self ] value } x", 3);
        d.givesWhole("{ x = [ ^ 4. 5 ] value. y = 6 } x", 4);
        d.stops("| q <- 3 | { x <- q }", 1, "q", 3, 0);
    }

    private static void cells() {
        Check.sentence("Cells (arguments, then others with what they begin with, else nil)");
        Check c = new Check(300);
        int p = c.run("[ | :a. :b. c. d <- 7. e <- -7. f <- - 0 | zork ] value: 1 With: 'q'");
        int o = c.world.frame(p, 0, 0);
        Check.due("cells", c.world.object(o, 1), 6);
        long[] values = {W + 1, 0, 0, W + 7, W - 7, W};
        for (int i = 0; i < 6; i++) {
            if (i != 1) {
                Check.due("cell " + i, c.world.value(o, i), values[i]);
            }
        }
        Check.due("cell 1", c.string(c.world.value(o, 1)), "q");
        Check.sentence("A message x: alone, to nothing told, x being such a cell that is no argument, changes it (answer: self)");
        c.gives("| x | x: 4", 3);
        c.givesWhole("| x | x: 4. x", 4);
        c.givesWhole("| x <- 1 | [ [ x: 5 ] value ] value. x", 5);
        c.stops("| x | x: 4 Y: 5", 1, "x:Y:", 3, 2);
        c.stops("| x | self x: 4", 1, "x:", 3, 1);
        c.stops("[ | :x | x: 4 ] value: 3", 1, "x:", 3, 1);
        c.stops("| x | [ | :x | x: 4 ] value: 3", 1, "x:", 3, 1);
        c.errs("| x | { m = ( x: 4 ). parent* = lobby } m", 1, "x:", 1);
        c.errs("| x | { y = [ x: 4 ] value }", 1, "x:", 1);
        int units = c.world.count(3);
        c.run("| x | x: 4. x. x: x. x");
        Check.due("no unit", c.world.count(3), units);
        Check.sentence("A NAME that is a cell of its body, or of one around (the nearest; not beyond a method or a slot's e)");
        c.givesWhole("| x <- 1 | [ | x <- 2 | [ x ] value ] value", 2);
        c.givesWhole("| x <- 1 | [ | y <- 2 | [ x ] value ] value", 1);
        c.run("self _Slots: { x = 9 }");
        c.givesWhole("| x <- 1 | { y = x } y", 9);
        c.givesWhole("| x <- 1 | { y = [ x ] value } y", 9);
        c.givesWhole("| x <- 1 | { parent* = lobby. y = ( x ) } y", 9);
        c.givesWhole("| x <- 1 | self x", 9);
    }

    private static void values() {
        Check.sentence("{ } the values of its slots, from the left, then a new plain object");
        Check c = new Check(300);
        c.run("{ a = 'a' _Print. b = 'b'. c <- 'c' _Print. d = ( 'd' _Print ). e* <- 'e' _Print }");
        Check.due("from the left", c.fetched(), "ace");
        int p = c.run("{ a = 'first'. b = { }. c = [ ] }");
        int o = (int) c.world.answer(p, 0);
        Check.due("then the object", o > c.world.value(o, 0) && o > c.world.value(o, 1) && o > c.world.value(o, 2), true);
        Check.due("in order", c.world.value(o, 0) < c.world.value(o, 1), true);
        Check.sentence("x: of an assignable x changes it where it is (answer: what it was sent to)");
        c.run("self _Slots: { base = { x <- 1 } }. self _Slots: { kid = { p* = base } }");
        c.gives("kid x: 2", c.answer("kid"));
        c.givesWhole("base x", 2);
    }

    private static void directed() {
        Check.sentence("name.s from the value of the holder's own parent of that name (no such parent: error NONE)");
        Check c = new Check(300);
        c.run("self _Slots: { a = { x = 1 }. amb = { x = 2 } }");
        c.run("self _Slots: { b = { p* = a. n = a. v* <- 5. m: y = ( 3 ). one = ( p.x ). two = ( n.x ). three = ( zork.x ). "
            + "four = ( v.not ). five = ( v.nil ). six = ( m.x ). seven = ( p.y: 1 Z: 2 ) } }");
        c.run("self _Slots: { kid = { q* = b. eight = ( p.x ) } }");
        long b = c.answer("b");
        c.givesWhole("b one", 1);
        c.givesWhole("kid one", 1);
        c.stops("b two", 1, "x", b, 0);
        c.stops("b three", 1, "x", b, 0);
        c.stops("b four", 1, "not", b, 0);
        c.gives("b five", 0);
        c.stops("b six", 1, "x", b, 0);
        c.stops("b seven", 1, "y:Z:", b, 2);
        c.stops("kid eight", 1, "x", c.answer("kid"), 0);
        Check.sentence("With TO what is found NONE is the error at once, and blocks answer nothing themselves");
        Check d = new Check(300);
        d.run("self _Slots: { u = { unknown: s With: v = ( 9 ). p* = nil. m = ( resend.foo ). n = ( p.foo ) } }");
        long u = d.answer("u");
        d.givesWhole("u foo", 9);
        d.stops("u m", 1, "foo", u, 0);
        d.stops("u n", 1, "foo", u, 0);
        d.stops("resend.foo", 1, "foo", 3, 0);
        d.run("block _Slots: { m = ( resend.value ). n = ( parent.value: 3 ) }");
        int p = d.run("[ 3 ] m");
        Check.due("error", d.world.process(p, 4), 1);
        p = d.run("[ | :a | 3 ] n");
        Check.due("error", d.world.process(p, 4), 1);
        d.run("self _Slots: { value = 6 }");
        d.givesWhole("[ 3 ] m", 6);
        Check.sentence("resend.s searches from the values of all parents of the holder, in order");
        d.run("self _Slots: { x1 = { x = 1 }. x2 = { x = 2. y = 3 } }");
        d.run("self _Slots: { both = { p* = x1. q* = x2. x = ( resend.x ). y = ( resend.y ) } }");
        d.stops("both x", 2, "x", d.answer("both"), 0);
        d.givesWhole("both y", 3);
    }

    private static void counts() {
        Check.sentence("The first four begin its body with these arguments (as many as it has, else error COUNT)");
        String[] blocks = {"[ 5 ]", "[ | :a | 5 ]", "[ | :a. :b | 5 ]", "[ | :a. :b. :c | 5 ]", "[ | :a. :b. :c. :d | 5 ]"};
        String[] messages = {"value", "value: 1", "value: 1 With: 2", "value: 1 With: 2 With: 3"};
        String[] selectors = {"value", "value:", "value:With:", "value:With:With:"};
        for (int has = 0; has < 5; has++) {
            Check c = new Check(300);
            for (int told = 0; told < 4; told++) {
                int p = c.run(blocks[has] + " " + messages[told]);
                Check.due("state of " + blocks[has] + " " + messages[told], c.world.process(p, 0), has == told ? 2 : 3);
                Check.due("error", c.world.process(p, 4), has == told ? 0 : 4);
                Check.due("selector", c.erred(p), has == told ? "" : selectors[told]);
                Check.due("arguments", c.world.process(p, 6), has == told ? 0 : told);
            }
            int p = c.run(blocks[has] + " value: 1 With: 2 With: 3 With: 4");
            Check.due("a fifth is searched", c.world.process(p, 4), 1);
        }
        Check.sentence("Blocks answer themselves, ahead of a search");
        Check d = new Check(300);
        d.run("block _Slots: { value = ( 9 ). ensure: b = ( 9 ). value: a With: b With: c With: d = ( 8 ) }");
        d.givesWhole("[ 3 ] value", 3);
        d.givesWhole("[ 3 ] ensure: [ 4 ]", 3);
        d.givesWhole("[ 3 ] value: 1 With: 2 With: 3 With: 4", 8);
    }

    private static void gone() {
        Check.sentence("^ in a block: if that is not among them: error GONE");
        Check c = new Check(300);
        c.run("self _Slots: { m = ( [ ^ 5 ] ). n = ( m value. 6 ). l = ( [ [ ^ 7 ] value. 8 ] value. 9 ). k <- 0. t <- 0 }");
        int p = c.stops("n", 5, "^", 3, 0);
        Check.due("mend", c.world.mend(p, W + 4), true);
        c.world.turn(10);
        Check.due("the body goes on behind it", c.world.answer(p, 0), W + 6);
        c.givesWhole("l", 7);
        p = (int) c.answer("k: [ ^ 5 ] _Spawn. k");
        Check.due("of another process", c.world.process(p, 4), 5);
        Check.due("mend", c.world.mend(p, W + 4), true);
        c.world.turn(10);
        Check.due("the ^ is left out", c.world.answer(p, 0), W + 4);
        c.run("t: [ ^ 5 ]");
        c.stops("t value", 5, "^", 3, 0);
        c.givesWhole("[ ^ 5 ] value. 6", 5);
        c.givesWhole("{ x = [ ^ 5 ] value } x + 1", 6);
        Check.sentence("Activations ahead of that are left, with what they were working out");
        c.run("self _Slots: { f = ( 1 + (2 - ([ 3 _Sub: ([ ^ 4 ] value) ] value)) ). g: b = ( 1 + (2 - b value) ) }");
        c.givesWhole("10 - f", 6);
        c.givesWhole("10 - ([ 20 - (30 + f) ] value)", 24);
        c.run("self _Slots: { h = ( 5 - (g: [ ^ 4 ]) ) }");
        c.givesWhole("10 - h", 6);
        c.givesWhole("{ a = 1. x = [ 1 + (2 - ([ ^ 5 ] value)) ] value. y = 7 } x", 5);
    }

    private static void ensures() {
        Check.sentence("If a ^ leaves it while the first is at work, value is sent to b at that moment");
        Check c = new Check(300);
        c.givesWhole("[ 'a' _Print. ^ 1 ] ensure: [ 'b' _Print. 2 ]. 3", 1);
        Check.due("first b, then on", c.fetched(), "ab");
        c.givesWhole("[ 1 ] ensure: [ 'b' _Print. 2 ]", 1);
        Check.due("once", c.fetched(), "b");
        Check.sentence("Not while b is at work; a second one, out of b, takes its place");
        c.givesWhole("[ 1 ] ensure: [ 'b' _Print. ^ 2 ]. 3", 2);
        Check.due("once", c.fetched(), "b");
        c.givesWhole("[ ^ 1 ] ensure: [ 'b' _Print. ^ 2 ]. 3", 2);
        Check.due("once", c.fetched(), "b");
        c.run("self _Slots: { m = ( [ ^ 1 ] ensure: [ [ ^ 2 ] ensure: [ 'c' _Print. 3 ] ]. 4 ) }");
        c.givesWhole("m", 2);
        Check.due("one within", c.fetched(), "c");
        c.givesWhole("[ [ ^ 1 ] ensure: [ 'a' _Print ] ] ensure: [ 'b' _Print ]. 5", 1);
        Check.due("the latest first", c.fetched(), "ab");
        c.givesWhole("9 - ([ 3 ] ensure: [ 4 ])", 6);
        c.givesWhole("9 - ([ 8 - ([ 3 ] ensure: [ 4 ]) ] ensure: [ 7 - ([ 5 ] ensure: [ 6 ]) ])", 4);
        c.run("self _Slots: { o = { up* = { foo = 5 }. k = ( [ resend.foo ] ensure: [ up.foo ] ) } }");
        c.givesWhole("o k", 5);
        int units = c.world.count(3);
        c.run("[ 1 ] ensure: [ 2 ]");
        Check.due("what it passes on is no unit", c.world.count(3), units + 1);
        int p = c.run("[ zork ] ensure: [ 'b' _Print ]");
        Check.due("an error leaves nothing", c.fetched(), "");
        Check.due("stopped", c.world.process(p, 0), 3);
    }

    private static void unknowns() {
        Check.sentence("NONE found (without TO): if unknown:With: is found (one), that is sent with the selector as a string "
            + "and a vector of the arguments");
        Check c = new Check(300);
        c.run("self _Slots: { u = { unknown: s With: v = ( s _Print. v ) } }");
        int v = (int) c.answer("u foo");
        Check.due("selector", c.fetched(), "foo");
        Check.due("no argument", c.world.object(v, 1), 0);
        v = (int) c.answer("u a: 1 B: 2 C: 3 D: 4 E: 5 F: 6 G: 7 H: 8");
        Check.due("selector", c.fetched(), "a:B:C:D:E:F:G:H:");
        Check.due("eight", c.world.object(v, 1), 8);
        for (int i = 0; i < 8; i++) {
            Check.due("argument " + i, c.world.value(v, i), W + i + 1);
        }
        c.run("u " + "+".repeat(60) + " 3");
        Check.due("60 bytes", c.fetched(), "+".repeat(60));
        Check.sentence("Else error NONE; AMBIGUOUS: that error");
        c.run("self _Slots: { p1 = { unknown: s With: v = ( 1 ). x = 1 }. p2 = { unknown: s With: v = ( 2 ). x = 2 } }");
        c.run("self _Slots: { two = { p* = p1. q* = p2 } }");
        long two = c.answer("two");
        c.stops("two foo: 1", 1, "foo:", two, 1);
        c.stops("two x", 2, "x", two, 0);
        c.stops("two unknown: 1 With: 2", 2, "unknown:With:", two, 2);
        c.stops("nil foo", 1, "foo", 0, 0);
    }

    private static void depth() {
        Check.sentence("At most 60 activations of a process that are not through: else error DEPTH (ahead of ROOM)");
        Check c = new Check(300);
        c.run(DEEP);
        int p = c.tell("r: 58");
        c.world.turn(1 + 4 * 58);
        Check.due("sixty", c.world.process(p, 2), 60);
        c.world.turn(3000);
        Check.due("no error", c.world.process(p, 0), 2);
        p = c.stops("r: 59", 6, "r:", 3, 1);
        Check.due("sixty", c.world.process(p, 2), 60);
        Check.due("the last one", c.world.frame(p, 59, 3), 0);
        Check.due("no more", c.world.frame(p, 60, 3), -1);
        Check.due("mended as if it was through", c.world.mend(p, W + 4), true);
        c.world.turn(3000);
        Check.due("ended", c.world.answer(p, 0), W + 4);
        // A constant, an assignable one and an act begin nothing.
        c.run("v _At: 0 Put: { parent* = lobby. r: n = ( { x = 3. y = 'a'. z = ( 4 ) } y. [ ]. 3 _Add: 4 ) }");
        c.givesWhole("r: 57", 7);
        c.errs("r: 58", 6, "r:", 1);
        c.run("v _At: 0 Put: { r: n = ( 3 + 4 ) }");
        c.givesWhole("r: 56", 7);
        c.errs("r: 57", 6, "+", 1);
        c.run("v _At: 0 Put: { r: n = ( { x <- (5) } x ) }");
        c.givesWhole("r: 56", 5);
        c.errs("r: 57", 6, "", 0);
        c.run("v _At: 0 Put: { r: n = ( [ 5 ] value ) }");
        c.givesWhole("r: 56", 5);
        c.errs("r: 57", 6, "value", 0);
        c.run("v _At: 0 Put: { r: n = ( [ 5 ] ensure: 3 ) }");
        c.errs("r: 56", 6, "value", 0);
        c.errs("r: 57", 6, "ensure:", 1);
        // Activations that each work out five messages with eight arguments.
        Check wide = new Check(300);
        wide.run(DEEP);
        wide.run("self _Slots: { a: a B: b C: c D: d E: e F: f G: g H: h = ( | s <- -28 | s: (s _Add: a). s: (s _Add: b). s: (s _Add: c). "
            + "s: (s _Add: d). s: (s _Add: e). s: (s _Add: f). s: (s _Add: g). s _Add: h ) }");
        wide.run("v _At: 0 Put: { parent* = lobby. r: n = ( _Error: 4 ) }. self _Slots: { r: n = ( "
            + "a: 1 B: 2 C: 3 D: 4 E: 5 F: 6 G: 7 H: ".repeat(5) + "((v _At: n) r: (n _Sub: 1)) ) }");
        p = wide.run("r: 57");
        Check.due("sixty", wide.world.process(p, 2), 60);
        Check.due("told", wide.world.process(p, 4), 8);
        wide.world.sweep();
        wide.world.mend(p, W + 5);
        for (int k = 0; k < 10; k++) {
            wide.world.turn(3000);
        }
        Check.due("all of them", wide.world.answer(p, 0), W + 5);
        Check full = Check.almostFull(DEEP, 40);
        Check.due("room for 39 activations", full.world.process(full.run("r: 37"), 0), 2);
        full.world.sweep();
        p = full.stops("r: 38", 7, "r:", 3, 1);
        Check.due("39 of them", full.world.process(p, 2), 39);
        Check deep = Check.almostFull(DEEP, 61);
        p = deep.stops("r: 59", 6, "r:", 3, 1);
        Check.due("N live", deep.world.count(0), 100);
        Check.due("ahead of ROOM", deep.world.process(p, 4), 6);
    }

    private static void turn() {
        Check.sentence("turn: At most n UNITS are done (0 .. 3000, else -1): how many; fewer if no process is ready");
        Check c = new Check(100);
        for (int n : new int[] {-1, 3001, Integer.MAX_VALUE, Integer.MIN_VALUE}) {
            Check.due("turn " + n, c.world.turn(n), -1);
        }
        Check.due("no process", c.world.turn(3000), 0);
        int p = c.tell("[ true ] whileTrue: [ 3 ]");
        Check.due("none", c.world.turn(0), 0);
        Check.due("nothing was done", c.world.process(p, 2), 0);
        Check.due("refused", c.world.turn(-1), -1);
        Check.due("nothing was done", c.world.count(3), 0);
        Check.due("one", c.world.turn(1), 1);
        Check.due("all", c.world.turn(3000), 3000);
        Check.due("units", c.world.count(3), 3001);
        Check d = new Check(100);
        p = d.tell("zork. lobby");
        Check.due("up to the error", d.world.turn(3000), 1);
        d.world.mend(p, 0);
        Check.due("up to the end", d.world.turn(3000), 1);
        Check.due("no more", d.world.turn(3000), 0);
        p = d.tell("(_Semaphore: 0) _Wait");
        Check.due("up to where it waits", d.world.turn(3000), 2);
        Check.sentence("A turn() stops right behind its last unit (what that began stays as it is)");
        Check e = new Check(100);
        p = e.tell("3 + 4");
        e.world.turn(1);
        Check.due("+ has begun", e.world.process(p, 2), 2);
        e.world.turn(1);
        Check.due("is not through", e.world.process(p, 2), 2);
        Check.due("no unit", e.world.turn(0), 0);
        Check.due("is not through", e.world.process(p, 2), 2);
        Check.due("nothing left", e.world.turn(1), 0);
        Check.due("ended", e.world.process(p, 0), 2);
    }

    private static void process() {
        Check.sentence("process: -1 for what is no process, another what");
        Check c = new Check(100);
        int p = c.run("4 foo: 1 Bar: 2");
        for (int what : new int[] {-1, 7, Integer.MAX_VALUE, Integer.MIN_VALUE}) {
            Check.due("another what", c.world.process(p, what), -1);
        }
        for (int none : NO_PROCESS) {
            for (int what = 0; what < 7; what++) {
                Check.due("no process " + none, c.world.process(none, what), -1);
            }
        }
        Check.due("an activation is none", c.world.process(c.world.frame(p, 0, 0), 0), -1);
        Check.sentence("process: 3 its place in the row (from 0; else -1); 4 its error (0 without); "
            + "5 an error's reason (of ACT, 1 .. 10; else 0); 6 how many arguments what erred had (of a ^, and of literals, 0)");
        Check.due("stopped", c.world.process(p, 3), -1);
        Check.due("error", c.world.process(p, 4), 1);
        Check.due("reason", c.world.process(p, 5), 0);
        Check.due("arguments", c.world.process(p, 6), 2);
        int act = c.run("nil _Foo: 1 Bar: 2 Baz: 3");
        Check.due("reason", c.world.process(act, 5), 10);
        Check.due("arguments", c.world.process(act, 6), 3);
        int q = c.tell("3");
        int ready = c.tell("4");
        Check.due("place", c.world.process(q, 3), 0);
        Check.due("place", c.world.process(ready, 3), 1);
        int[] fresh = {0, 0, 0, 1, 0, 0, 0};
        int[] ended = {2, 0, 0, -1, 0, 0, 0};
        for (int what = 0; what < 7; what++) {
            Check.due("ready: " + what, c.world.process(ready, what), fresh[what]);
        }
        c.world.turn(10);
        for (int what = 0; what < 7; what++) {
            Check.due("ended: " + what, c.world.process(ready, what), ended[what]);
        }
        c.world.mend(act, 0);
        for (int what = 4; what < 7; what++) {
            Check.due("mended: " + what, c.world.process(act, what), 0);
        }
    }

    private static void answer() {
        Check.sentence("answer: wholes as 2 to the 40 and themselves");
        Check c = new Check(100);
        c.gives("2147483647", W + 2147483647L);
        c.gives("-2147483647 - 1", W - 2147483648L);
        c.gives("0", W);
        c.gives("-1", W - 1);
        Check.sentence("answer: its answer (what 0; nil till it has ended); of one that is stopped: to what went what erred (1), "
            + "the value of TOLD (2; else nil). -1 for what is none such");
        int p = c.tell("'abc' foo");
        for (int what = -1; what < 4; what++) {
            Check.due("ready: " + what, c.world.answer(p, what), what == 0 ? 0 : -1);
        }
        c.world.turn(10);
        Check.due("stopped", c.world.answer(p, 0), 0);
        Check.due("went to", c.string(c.world.answer(p, 1)), "abc");
        Check.due("not told", c.world.answer(p, 2), 0);
        Check.due("another what", c.world.answer(p, 3), -1);
        Check.due("another what", c.world.answer(p, -1), -1);
        c.world.mend(p, W);
        Check.due("mended", c.world.answer(p, 1), -1);
        Check.due("mended", c.world.answer(p, 2), -1);
        c.world.turn(1);
        Check.due("ended", c.world.answer(p, 0), W);
        Check.due("ended", c.world.answer(p, 1), -1);
        Check.due("ended", c.world.answer(p, 2), -1);
        p = c.run("(_Semaphore: 0) _Wait");
        for (int what = -1; what < 4; what++) {
            Check.due("waits: " + what, c.world.answer(p, what), what == 0 ? 0 : -1);
        }
        p = c.run("4 _Error: -5");
        Check.due("told", c.world.answer(p, 2), W - 5);
        Check.due("by", c.world.answer(p, 1), W + 4);
        for (int none : NO_PROCESS) {
            for (int what = -1; what < 4; what++) {
                Check.due("no process " + none, c.world.answer(none, what), -1);
            }
        }
    }

    private static void erred() {
        Check.sentence("erred: Eight bytes, from k on, of the selector of what erred in a stopped process (^ of a caret, nothing of literals), "
            + "the first one highest, 0 behind the end; 0 for what is none such, k below 0");
        Check c = new Check(100);
        int p = c.run("abcdefgh: 1 Ij: 2");
        Check.due("from 0", c.world.erred(p, 0), 0x6162636465666768L);
        Check.due("from 1", c.world.erred(p, 1), 0x626364656667683AL);
        Check.due("from 5", c.world.erred(p, 5), 0x6667683A496A3A00L);
        Check.due("the last", c.world.erred(p, 11), 0x3A00000000000000L);
        Check.due("behind", c.world.erred(p, 12), 0);
        for (int k : new int[] {-1, -8, 1000, Integer.MAX_VALUE, Integer.MAX_VALUE - 7, Integer.MIN_VALUE}) {
            Check.due("from " + k, c.world.erred(p, k), 0);
        }
        p = c.run("3 " + "+".repeat(60) + " 4");
        Check.due("60 bytes", c.world.erred(p, 52), 0x2B2B2B2B2B2B2B2BL);
        Check.due("60 bytes", c.world.erred(p, 53), 0x2B2B2B2B2B2B2B00L);
        p = (int) c.answer("[ ^ 3 ] _Spawn");
        Check.due("a caret", c.world.erred(p, 0), 0x5E00000000000000L);
        int ready = c.tell("zork");
        Check.due("not stopped", c.world.erred(ready, 0), 0);
        c.world.mend(p, 0);
        Check.due("mended", c.world.erred(p, 0), 0);
        c.world.turn(10);
        Check.due("ended", c.world.erred(p, 0), 0);
        for (int none : NO_PROCESS) {
            Check.due("no process " + none, c.world.erred(none, 0), 0);
        }
        Check one = Check.almostFull("3", 1);
        Check.due("nothing of literals", one.world.erred(one.run("3"), 0), 0);
    }

    private static void frame() {
        Check.sentence("frame: Activation i of a process, the latest 0; (1) its self's object (-1: a whole). -1 for what is none such");
        Check c = new Check(100);
        int p = c.run("3 + nil");
        Check.due("+", c.world.frame(p, 0, 3), 1);
        Check.due("its self is a whole", c.world.frame(p, 0, 1), -1);
        Check.due("the text", c.world.frame(p, 1, 3), 0);
        Check.due("its self", c.world.frame(p, 1, 1), 3);
        for (int i : new int[] {-1, 2, 60, Integer.MAX_VALUE, Integer.MIN_VALUE}) {
            for (int what = 0; what < 4; what++) {
                Check.due("activation " + i, c.world.frame(p, i, what), -1);
            }
        }
        for (int what : new int[] {-1, 4, Integer.MAX_VALUE, Integer.MIN_VALUE}) {
            Check.due("another what", c.world.frame(p, 0, what), -1);
        }
        for (int none : NO_PROCESS) {
            Check.due("no process " + none, c.world.frame(none, 0, 0), -1);
        }
        int q = c.tell("3");
        Check.due("ahead of its work", c.world.frame(q, 0, 0), -1);
        c.world.turn(1);
        Check.due("ended", c.world.frame(q, 0, 0), -1);
    }

    private static void mend() {
        Check.sentence("mend: false if it is none, or the value is none (no whole, no object that lives)");
        Check c = new Check(100);
        int p = c.run("zork");
        long[] none = {-1, 99, 100, 600, W - 2147483649L, W + 2147483648L, Long.MAX_VALUE, Long.MIN_VALUE, 1L << 32, 1L << 39};
        for (long value : none) {
            Check.due("no value " + value, c.world.mend(p, value), false);
            Check.due("stopped still", c.world.process(p, 0), 3);
        }
        for (int other : NO_PROCESS) {
            Check.due("no process " + other, c.world.mend(other, 0), false);
        }
        int ready = c.tell("3");
        Check.due("ready", c.world.mend(ready, 0), false);
        c.world.turn(1);
        Check.due("ended", c.world.mend(ready, 0), false);
        int waits = c.run("(_Semaphore: 0) _Wait");
        Check.due("waits", c.world.mend(waits, 0), false);
        long[] values = {W - 2147483648L, W + 2147483647L, W, 0, 9, p, c.world.frame(p, 0, 0)};
        for (long value : values) {
            int q = c.run("zork");
            Check.due("value " + value, c.world.mend(q, value), true);
            c.world.turn(1);
            Check.due("answer " + value, c.world.answer(q, 0), value);
            Check.due("once", c.world.mend(q, value), false);
        }
        Check.sentence("MENDED, a stopped one goes to the end of the row");
        int a = c.tell("3");
        c.world.mend(p, 0);
        Check.due("behind the others", c.world.process(p, 3), 1);
        Check.due("ahead of it", c.world.process(a, 3), 0);
        Check.sentence("DEPTH and ROOM: what was begun or made is as if it was through");
        Check one = Check.almostFull("3", 1);
        int text = one.run("3");
        Check.due("mend", one.world.mend(text, W + 8), true);
        Check.due("no unit", one.world.turn(1), 0);
        Check.due("a text", one.world.answer(text, 0), W + 8);
        Check spawns = Check.almostFull("3", 4);
        int maker = spawns.run("[ 3 ] _Spawn. zork");
        int spawned = -1;
        for (int o = 10; o < 100; o++) {
            spawned = o != maker && spawns.world.process(o, 0) == 3 ? o : spawned;
        }
        Check.due("ROOM", spawns.world.process(spawned, 4), 7);
        Check.due("mend", spawns.world.mend(spawned, W + 8), true);
        Check.due("no unit", spawns.world.turn(10), 0);
        Check.due("a block", spawns.world.answer(spawned, 0), W + 8);
        Check two = Check.almostFull("3", 2);
        for (String made : new String[] {"[ ]", "'abc'", "{ }", "_Vector: 0 Fill: 0", "3 + 4", "{ } _Copy", "[ 3 ] _Spawn", "5 _Text"}) {
            text = two.run(made);
            Check.due(made, two.world.process(text, 4), 7);
            two.world.mend(text, W + 8);
            two.world.turn(1);
            two.finish(text);
            Check.due(made + ": answer", two.world.answer(text, 0), made.startsWith("{ } ") || made.startsWith("[ 3") ? 0 : W + 8);
        }
        text = two.run("{ x = nil } y");
        Check.due("a slot's e", two.world.process(text, 4), 7);
        two.world.mend(text, W + 8);
        two.world.turn(1);
        Check.due("then the object", two.world.process(text, 4), 7);
        two.finish(text);
    }
}
