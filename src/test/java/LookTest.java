/** Promises 11 to 19: object, slot, value, selector, find, found, senders, sender, references. */
public final class LookTest {
    private static final long W = Check.WHOLE;
    private static final int[] NONE = {-1, 599, 600, 1000000, Integer.MIN_VALUE, Integer.MAX_VALUE};

    public static void main(String[] arguments) {
        objects();
        shapes();
        slotsAndValues();
        finding();
        sending();
        referring();
        Check.end("LookTest");
    }

    private static void objects() {
        Check c = new Check(300);
        int p = c.run("self _Slots: { a <- 0. s <- 'str'. v <- 0. b <- 0. m <- 0. w <- 0. e <- 0 }. "
            + "v: (_Vector: 5 Fill: 1). b: [ | :x. y | x ]. m: (_Semaphore: 9). e: { f. g = ( 3 ) }. zork: 1 Mork: 2");
        int[][] sorts = {{(int) c.answer("e"), 0, 2}, {(int) c.answer("s"), 1, 3}, {(int) c.answer("v"), 2, 5},
            {(int) c.answer("b"), 3, 0}, {(int) c.answer("m"), 6, 9}, {p, 5, 0}, {c.world.frame(p, 0, 0), 4, 0}};
        for (int[] sort : sorts) {
            Check.due("sort", c.world.object(sort[0], 0), sort[1]);
            Check.due("size", c.world.object(sort[0], 1), sort[2]);
            Check.due("held", c.world.object(sort[0], 3), 0);
            Check.due("another what", c.world.object(sort[0], 4), -1);
            Check.due("another what", c.world.object(sort[0], -1), -1);
            if (sort[1] != 0) {
                Check.due("no shape", c.world.object(sort[0], 2), -1);
            }
        }
        int q = c.run("| a. b. c | zork");
        Check.due("cells", c.world.object(c.world.frame(q, 0, 0), 1), 3);
        for (int o : NONE) {
            for (int what = 0; what < 4; what++) {
                Check.due("no object " + o, c.world.object(o, what), -1);
            }
        }
    }

    private static void shapes() {
        Check c = new Check(300);
        c.run("self _Slots: { m = ( { a = 1. b <- 2. f = ( 3 ) } ). k <- 0 }");
        int a = (int) c.answer("k: m. k");
        int b = (int) c.answer("m b: 7");
        Check.due("others", a != b, true);
        Check.due("like slots", c.world.object(b, 2), a);
        Check.due("its own", c.world.object(a, 2), a);
        int d = (int) c.answer("{ a = 1. b <- 2. f = ( 3 ) }");
        Check.due("another body", c.world.object(d, 2), d);
        int e = (int) c.answer("{ a = 1. b <- 2 }");
        int f = (int) c.answer("{ a = 1. b <- 'q' }");
        int g = (int) c.answer("{ a = 2. b <- 2 }");
        int h = (int) c.answer("{ a* = 1. b <- 2 }");
        int i = (int) c.answer("{ b <- 2. a = 1 }");
        Check.due("assignable ones may have others", c.world.object(f, 2), e);
        Check.due("constants not", c.world.object(g, 2), g);
        Check.due("parents not", c.world.object(h, 2), h);
        Check.due("in order", c.world.object(i, 2), i);
        Check.due("no slots at all", c.world.object((int) c.answer("{ }"), 2), 0);
    }

    private static void slotsAndValues() {
        Check c = new Check(300);
        int o = (int) c.answer("{ a* = lobby. b = 3. c <- 'xy'. d* <- 4. e = ( 5 ). abcdefgh: i Jkl: m = ( 6 ) }");
        long[] kinds = {4, 0, 1, 5, 2, 2};
        for (int i = 0; i < kinds.length; i++) {
            Check.due("kind " + i, c.world.slot(o, i), kinds[i]);
        }
        Check.due("value", c.world.value(o, 0), 3);
        Check.due("value", c.world.value(o, 1), W + 3);
        int s = (int) c.world.value(o, 2);
        Check.due("byte", c.world.value(s, 1), W + 'y');
        Check.due("no byte", c.world.value(s, 2), -1);
        Check.due("value", c.world.value(o, 3), W + 4);
        Check.due("of a method", c.world.value(o, 4), -1);
        Check.due("no slot", c.world.value(o, 6), -1);
        Check.due("no slot", c.world.slot(o, 6), -1);
        Check.due("no slot", c.world.slot(o, -1), -1);
        Check.due("no slots", c.world.slot(s, 0), -1);
        Check.due("selector", c.world.selector(o, 0, 0), 0x6100000000000000L);
        Check.due("selector", c.world.selector(o, 5, 0), 0x6162636465666768L);
        Check.due("selector from 8", c.world.selector(o, 5, 8), 0x3A4A6B6C3A000000L);
        Check.due("behind its end", c.world.selector(o, 5, 13), 0);
        Check.due("below 0", c.world.selector(o, 5, -1), 0);
        Check.due("no slot", c.world.selector(o, 6, 0), 0);
        Check.due("no slots", c.world.selector(s, 0, 0), 0);
        int v = (int) c.answer("(_Vector: 2 Fill: 7) _At: 1 Put: nil");
        Check.due("element", c.world.value(v, 0), W + 7);
        Check.due("element", c.world.value(v, 1), 0);
        Check.due("no element", c.world.value(v, 2), -1);
        int p = c.run("| a <- 5. b | b: [ a ]. zork");
        int home = c.world.frame(p, 0, 0);
        Check.due("cell", c.world.value(home, 0), W + 5);
        int b = (int) c.world.value(home, 1);
        Check.due("home", c.world.value(b, 0), home);
        Check.due("no more", c.world.value(b, 1), -1);
        Check.due("of a process", c.world.value(p, 0), -1);
        int sem = (int) c.answer("_Semaphore: 3");
        Check.due("of a semaphore", c.world.value(sem, 0), -1);
        for (int none : NONE) {
            Check.due("no object", c.world.value(none, 0), -1);
            Check.due("no object", c.world.slot(none, 0), -1);
            Check.due("no object", c.world.selector(none, 0, 0), 0);
            Check.due("no slot", c.world.value(3, none), -1);
            Check.due("no slot", c.world.slot(3, none), -1);
            Check.due("no slot", c.world.selector(3, none, 0), 0);
        }
    }

    private static int find(Check c, long value, String selector) {
        c.feed(selector);
        return c.world.find(value, selector.length());
    }

    private static void finding() {
        Check c = new Check(300);
        c.run("self _Slots: { a = { x <- 1. y = 2 }. b = { y = 3 } }. self _Slots: { d = { p* = a. q* = b. r* = a } }");
        int a = (int) c.answer("a");
        int b = (int) c.answer("b");
        int d = (int) c.answer("d");
        Check.due("two", find(c, d, "y"), 2);
        Check.due("the first", c.world.found(0, 0), a);
        Check.due("its slot", c.world.found(0, 1), 1);
        Check.due("the second", c.world.found(1, 0), b);
        Check.due("its slot", c.world.found(1, 1), 0);
        Check.due("no more", c.world.found(2, 0), -1);
        Check.due("below 0", c.world.found(-1, 0), -1);
        Check.due("another what", c.world.found(0, 2), -1);
        Check.due("refused: no value", find(c, 599, "x"), -1);
        Check.due("the tape stays", c.world.count(1), 20);
        Check.due("refused: below 0", c.world.find(-1, 1), -1);
        Check.due("refused: n", c.world.find(0, 0), -1);
        Check.due("refused: n", c.world.find(0, 21), -1);
        Check.due("refused: no value", c.world.find(W + (1L << 31), 1), -1);
        Check.due("what was found stays", c.world.found(1, 0), b);
        Check.due("x:", c.world.find(d, 1), 1);
        Check.due("the tape is empty", c.world.count(1), 0);
        Check.due("x: of an assignable x", find(c, d, "x:"), 1);
        Check.due("its slot", c.world.found(0, 1), 0);
        Check.due("y: of a constant y", find(c, d, "y:"), 0);
        Check.due("none", c.world.found(0, 0), -1);
        Check.due("of a whole", find(c, W - 5, "+"), 1);
        Check.due("its traits", c.world.found(0, 0), 4);
        Check.due("through parents", find(c, W, "lobby"), 1);
        Check.due("lobby has it", c.world.found(0, 0), 3);
        Check.due("no selector", find(c, 3, "no such thing at all, and far too long for a selector of any kind, too"), 0);
        c.run("self _Slots: { abcdefghij: a Klmnopq: b = ( 3 ). m = ( abcdefghij: 1 Klmnopq: 2 ) }");
        Check.due("as many as there are", find(c, 3, "abcdefghij:Klmnopq: ".substring(0, 19)), 1);
        c.feed("                   x");
        Check.due("all bytes that there are", c.world.find(3, 20), 0);
        int p = c.run("zork");
        Check.due("an activation is searched from nil", find(c, c.world.frame(p, 0, 0), "nil"), 0);
        find(c, d, "y");
        c.run("a _Take: 'x'");
        Check.due("as they were then", c.world.found(0, 1), 1);
    }

    private static int senders(Check c, String selector) {
        c.feed(selector);
        return c.world.senders(selector.length());
    }

    private static void sending() {
        Check c = new Check(300);
        Check.due("_Same:", senders(c, "_Same:"), 2);
        Check.due("of wholes", c.world.sender(0, 0), 4);
        Check.due("their slot", c.world.sender(0, 1), 8);
        Check.due("of strings", c.world.sender(1, 0), 5);
        Check.due("their slot", c.world.sender(1, 1), 4);
        Check.due("no more", c.world.sender(2, 0), -1);
        Check.due("below 0", c.world.sender(-1, 0), -1);
        Check.due("another what", c.world.sender(0, 2), -1);
        Check.due("changing a cell is none", senders(c, "i:"), 0);
        c.run("self _Slots: { o = { m1 = ( zip ). m2 = ( [ zip zap ] ). m3 = ( { x = zip } ). m4 = ( { x = ( zip ) } ). "
            + "m5 = ( | zip | zip: 3. zip ). m6 = ( resend.zip ). m7 = ( up.zip: 4 ). m8: zip = ( zip: zip ). m9 = ( self zip: 3 ) } }");
        int o = (int) c.answer("o");
        Check.due("zip", senders(c, "zip"), 4);
        int[] slots = {0, 1, 2, 5};
        for (int k = 0; k < 4; k++) {
            Check.due("zip " + k, c.world.sender(k, 0), o);
            Check.due("slot " + k, c.world.sender(k, 1), slots[k]);
        }
        Check.due("zip:", senders(c, "zip:"), 3);
        Check.due("its slot", c.world.sender(0, 1), 6);
        c.run("o _Slots: { n = ( { x = 1. y = 'q'. z = ( 2 ). w } _Copy. zup ) }");
        Check.due("of all that live, swept or not", senders(c, "zup"), 2);
        c.world.sweep();
        Check.due("of all that live", senders(c, "zup"), 1);
        c.run("o m4");
        Check.due("a method within is its own", senders(c, "zip"), 5);
        Check.due("none", senders(c, "nowhere"), 0);
        Check.due("none", c.world.sender(0, 0), -1);
        c.feed("12345678901234567890");
        Check.due("all bytes that there are", c.world.senders(20), 0);
        Check.due("refused", c.world.senders(0), -1);
        Check.due("refused", c.world.senders(1), -1);
        c.feed("zip");
        Check.due("refused", c.world.senders(21), -1);
        Check.due("the tape stays", c.world.count(1), 20);
    }

    private static void referring() {
        Check c = new Check(300);
        int before = c.world.references(0);
        Check.due("nil, in lobby", before, 1);
        c.run("self _Slots: { a = { }. v <- 0 }. self _Slots: { b = a. d <- a }. v: (_Vector: 3 Fill: a)");
        c.world.sweep();
        int a = (int) c.answer("a");
        c.world.sweep();
        Check.due("slots and elements", c.world.references(a), 6);
        c.world.undo();
        c.world.sweep();
        Check.due("kept changes have none", c.world.references(a) < 6, true);
        int p = c.run("| x. y | x: a. y: [ a ]. zork");
        int home = c.world.frame(p, 0, 0);
        Check.due("a home", c.world.references(home), 1);
        int q = c.run("| b | b: [ zork ]. b value");
        Check.due("a home of a block and of its activation", c.world.references(c.world.frame(q, 1, 0)), 2);
        int h = (int) c.answer("{ m = ( 3 zork ) }");
        int lobby = c.world.references(3);
        c.run("zork");
        Check.due("a holder", c.world.references(3), lobby + 1);
        Check.due("no one has it", c.world.references(h), 0);
        for (int none : NONE) {
            Check.due("no object", c.world.references(none), -1);
        }
    }
}
