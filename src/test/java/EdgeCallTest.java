/** The boundary cases of promises 11 to 26 and of the world's letters, sentence by sentence. */
public final class EdgeCallTest {
    private static final long W = Check.WHOLE;
    private static final int[] WILD = {-1, 100, 599, 600, 601, Integer.MAX_VALUE, Integer.MIN_VALUE};
    private static final long[] NO_VALUES = {-1, 99, 100, 600, W - 2147483649L, W + 2147483648L, Long.MAX_VALUE, Long.MIN_VALUE, 1L << 32};
    private static final String SIXTY = "b".repeat(60);

    public static void main(String[] arguments) {
        object();
        shape();
        slot();
        value();
        selector();
        find();
        found();
        senders();
        sender();
        references();
        hold();
        sweep();
        undo();
        write();
        lost();
        letters();
        methods();
        octets();
        fetch();
        count();
        refused();
        Check.end("EdgeCallTest");
    }

    /** A world in which lobby has one object of each sort, at its slots from 10 on. */
    private static Check sorts() {
        Check c = new Check(100);
        c.run("self _Slots: { o <- nil. s <- nil. v <- nil. b <- nil. p <- nil. m <- nil }. o: { x <- 1. y = ( 2 ) }. s: 'abc'. "
            + "v: (_Vector: 2 Fill: 7). b: [ 3 ]. p: [ 4 ] _Spawn. m: (_Semaphore: 5)");
        return c;
    }

    private static int at(Check c, int slot) {
        return (int) c.world.value(3, slot);
    }

    private static void object() {
        Check.sentence("object: its sort (what 0), slots, bytes, elements, cells, or signals (1; of others 0). -1 for what is none such");
        Check c = sorts();
        int[] sorts = {0, 1, 2, 3, 5, 6};
        int[] sizes = {2, 3, 2, 0, 0, 5};
        for (int i = 0; i < sorts.length; i++) {
            int o = at(c, 10 + i);
            Check.due("sort", c.world.object(o, 0), sorts[i]);
            Check.due("size", c.world.object(o, 1), sizes[i]);
            Check.due("shape", c.world.object(o, 2), i == 0 ? o : -1);
            Check.due("held", c.world.object(o, 3), 0);
            for (int what : new int[] {-1, 4, Integer.MAX_VALUE, Integer.MIN_VALUE}) {
                Check.due("another what", c.world.object(o, what), -1);
            }
        }
        int p = c.run("| a. b. c | zork");
        Check.due("an activation", c.world.object(c.world.frame(p, 0, 0), 0), 4);
        Check.due("its cells", c.world.object(c.world.frame(p, 0, 0), 1), 3);
        for (int none : WILD) {
            for (int what = -1; what < 5; what++) {
                Check.due("no object " + none, c.world.object(none, what), -1);
            }
        }
        Check.due("empty", c.world.object((int) c.answer("''"), 1), 0);
        Check.due("full", c.world.object((int) c.answer("'" + SIXTY + "'"), 1), 60);
        Check.due("empty", c.world.object((int) c.answer("_Vector: 0 Fill: 1"), 1), 0);
        Check.due("full", c.world.object((int) c.answer("_Vector: 60 Fill: 1"), 1), 60);
        Check.due("empty", c.world.object((int) c.answer("{ }"), 1), 0);
        Check.due("free", c.world.object(99, 0), -1);
    }

    private static void shape() {
        Check.sentence("object: SHAPE (2: the lowest number of a plain one with like slots; -1 for others)");
        Check c = new Check(300);
        Check.due("one without slots", c.world.object((int) c.answer("{ }"), 2), 0);
        Check.due("nil", c.world.object(0, 2), 0);
        Check.due("true", c.world.object(1, 2), 1);
        Check.due("false is not like true", c.world.object(2, 2), 2);
        c.run("self _Slots: { f = ( { a = 'q'. b <- 1. c* = nil. m = ( 3 ) } ). k <- 0 }. k: f");
        int k = (int) c.answer("k");
        Check.due("its own", c.world.object(k, 2), k);
        Check.due("like slots", c.world.object((int) c.answer("f b: 9"), 2), k);
        Check.due("a copy", c.world.object((int) c.answer("f _Copy"), 2), k);
        String[] others = {"f _Slots: { a = 'r' }", "f _Slots: { b = 1 }", "f _Slots: { c = nil }", "f _Slots: { m = ( 3 ) }", "f _Slots: { d }",
            "f _Take: 'm'", "{ b <- 1. a = 'q' } _Slots: f"};
        for (String other : others) {
            int o = (int) c.answer(other);
            Check.due(other, c.world.object(o, 2), o);
        }
        Check.due("a parent's mark", c.world.object((int) c.answer("{ a* = 1 }"), 2) == c.world.object((int) c.answer("{ a = 1 }"), 2), false);
    }

    private static void slot() {
        Check.sentence("slot: Slot i of a plain object: its kind, and 4 for a parent. -1 for what is none such");
        Check c = sorts();
        c.run("o _Define: { a = 1. b <- 2. d = ( 3 ). e* = 4. f* <- 5 }");
        int[] kinds = {0, 1, 2, 4, 5};
        for (int i = 0; i < 5; i++) {
            Check.due("kind " + i, c.world.slot(at(c, 10), i), kinds[i]);
        }
        for (int i : new int[] {-1, 5, 24, 60, Integer.MAX_VALUE, Integer.MIN_VALUE}) {
            Check.due("no slot " + i, c.world.slot(at(c, 10), i), -1);
        }
        for (int other = 11; other < 16; other++) {
            Check.due("no plain object", c.world.slot(at(c, other), 0), -1);
        }
        for (int none : WILD) {
            Check.due("no object " + none, c.world.slot(none, 0), -1);
        }
    }

    private static void value() {
        Check.sentence("value: Its value; of a vector element i, of an activation cell i; of a string byte i, as a whole; "
            + "of a block its home (i 0). -1 of a method, for what is none such");
        Check c = sorts();
        Check.due("a slot", c.world.value(at(c, 10), 0), W + 1);
        Check.due("a method", c.world.value(at(c, 10), 1), -1);
        Check.due("a byte", c.world.value(at(c, 11), 2), W + 'c');
        Check.due("an element", c.world.value(at(c, 12), 1), W + 7);
        Check.due("a home", c.world.object((int) c.world.value(at(c, 13), 0), 0), 4);
        int[] sizes = {2, 3, 2, 1, 0, 0};
        for (int k = 0; k < 6; k++) {
            for (int i : new int[] {-1, sizes[k], 60, Integer.MAX_VALUE, Integer.MIN_VALUE}) {
                Check.due("none of " + k + " at " + i, c.world.value(at(c, 10 + k), i), -1);
            }
        }
        for (int none : WILD) {
            Check.due("no object " + none, c.world.value(none, 0), -1);
        }
        int full = (int) c.answer("_Vector: 60 Fill: -2147483647");
        Check.due("the last", c.world.value(full, 59), W - 2147483647L);
        Check.due("behind it", c.world.value(full, 60), -1);
        int p = c.run("| a <- -1 | zork");
        Check.due("a cell", c.world.value(c.world.frame(p, 0, 0), 0), W - 1);
        Check.due("no cell", c.world.value(c.world.frame(p, 0, 0), 1), -1);
    }

    private static void selector() {
        Check.sentence("selector: Eight bytes, from k on, of the selector of slot i, the first one highest, 0 behind its end; 0 for what is none such");
        Check c = sorts();
        c.run("o _Define: { abcdefgh: x Ij: y = ( 3 ). " + "+".repeat(60) + " a = ( 4 ) }");
        int o = at(c, 10);
        Check.due("from 0", c.world.selector(o, 0, 0), 0x6162636465666768L);
        Check.due("from 4", c.world.selector(o, 0, 4), 0x656667683A496A3AL);
        Check.due("from 5", c.world.selector(o, 0, 5), 0x6667683A496A3A00L);
        Check.due("from 11", c.world.selector(o, 0, 11), 0x3A00000000000000L);
        Check.due("the last of 60", c.world.selector(o, 1, 59), 0x2B00000000000000L);
        for (int k : new int[] {12, 60, -1, -8, Integer.MAX_VALUE, Integer.MAX_VALUE - 7, Integer.MIN_VALUE}) {
            Check.due("from " + k, c.world.selector(o, 0, k), 0);
        }
        for (int i : new int[] {-1, 2, 24, Integer.MAX_VALUE, Integer.MIN_VALUE}) {
            Check.due("no slot " + i, c.world.selector(o, i, 0), 0);
        }
        for (int other = 11; other < 16; other++) {
            Check.due("no plain object", c.world.selector(at(c, other), 0, 0), 0);
        }
        for (int none : WILD) {
            Check.due("no object " + none, c.world.selector(none, 0, 0), 0);
        }
    }

    private static int finds(Check c, long value, String name) {
        c.feed(name);
        return c.world.find(value, name.length());
    }

    private static void find() {
        Check.sentence("find: -1 for no value, n not 1 .. the bytes that there are (refused)");
        Check c = new Check(100);
        Check.due("no bytes", c.world.find(3, 1), -1);
        Check.due("nor none", c.world.find(3, 0), -1);
        c.feed("lobby");
        for (long none : NO_VALUES) {
            Check.due("no value " + none, c.world.find(none, 5), -1);
        }
        for (int n : new int[] {0, -1, 21, Integer.MAX_VALUE, Integer.MIN_VALUE}) {
            Check.due("n is " + n, c.world.find(3, n), -1);
        }
        Check.due("the tape stays", c.world.count(1), 20);
        Check.due("five bytes", c.world.find(3, 5), 1);
        Check.due("the tape is empty then", c.world.count(1), 0);
        Check.sentence("find: a selector that is SEARCHED from the START of a value: how many are found (more than one: AMBIGUOUS)");
        Check.due("the least", finds(c, W - 2147483648L, "+"), 1);
        Check.due("the greatest", finds(c, W + 2147483647L, "not"), 0);
        c.run("self _Slots: { a <- nil }. a: [ 3 ]");
        Check.due("a block is searched for value", finds(c, at(c, 10), "value"), 0);
        Check.due("x: of an assignable x", finds(c, 3, "a:"), 1);
        Check.due("of a constant one not", finds(c, 3, "nil:"), 0);
        Check.due("what is no selector", finds(c, 3, "a b"), 0);
        Check.due("one byte", finds(c, 3, "a"), 1);
        Check.due("nowhere told", finds(c, 3, "nowhere:"), 0);
        Check.due("more than 60 bytes", finds(c, 3, "a".repeat(61)), 0);
        Check.due("bytes of any kind", finds(c, 3, "\u0000\u00ff"), 0);
        StringBuilder parents = new StringBuilder();
        for (int i = 0; i < 24; i++) {
            parents.append("p").append(i).append("* = { x = ").append(i).append(" }. ");
        }
        Check d = new Check(300);
        d.run("self _Slots: { many = { " + parents + "} }");
        Check.due("24", finds(d, d.answer("many"), "x"), 24);
        Check.due("the last one", d.world.value(d.world.found(23, 0), d.world.found(23, 1)), W + 23);
        Check.due("no more", d.world.found(24, 0), -1);
    }

    private static void found() {
        Check.sentence("found: What the latest find() found k-th: the object (what 0), its slot (1), as they were then. -1 for what is none such");
        Check c = new Check(100);
        Check.due("ahead of all", c.world.found(0, 0), -1);
        finds(c, 4, "lobby");
        Check.due("object", c.world.found(0, 0), 3);
        Check.due("slot", c.world.found(0, 1), 3);
        for (int k : new int[] {-1, 1, 600, Integer.MAX_VALUE, Integer.MIN_VALUE}) {
            Check.due("no " + k, c.world.found(k, 0), -1);
            Check.due("no " + k, c.world.found(k, 1), -1);
        }
        for (int what : new int[] {-1, 2, Integer.MAX_VALUE, Integer.MIN_VALUE}) {
            Check.due("another what", c.world.found(0, what), -1);
        }
        c.world.find(3, 99);
        Check.due("refused: stays", c.world.found(0, 0), 3);
        c.run("self _Take: 'lobby'");
        Check.due("as they were then", c.world.found(0, 1), 3);
        finds(c, 3, "zork");
        Check.due("none", c.world.found(0, 0), -1);
    }

    private static int sends(Check c, String name) {
        c.feed(name);
        return c.world.senders(name.length());
    }

    private static void senders() {
        Check.sentence("senders: -1 likewise (n not 1 .. the bytes that there are: refused)");
        Check c = new Check(100);
        Check.due("no bytes", c.world.senders(1), -1);
        c.feed("value");
        for (int n : new int[] {0, -1, 21, Integer.MAX_VALUE, Integer.MIN_VALUE}) {
            Check.due("n is " + n, c.world.senders(n), -1);
        }
        Check.due("the tape stays", c.world.count(1), 20);
        Check.due("of true 3, of false 3, of block 2", c.world.senders(5), 8);
        Check.due("the tape is empty then", c.world.count(1), 0);
        Check.sentence("senders: a message of that selector stands (with TO, too; those of blocks and slots' e in them also; "
            + "reading or changing a cell is none)");
        String[] bodies = {"zip", "resend.zip", "p.zip", "[ [ zip ] ]", "{ x = zip }", "{ x <- [ zip ] }", "3 zip", "{ x = 3 } zip", "zip: zip", "'a'. zip zip zip"};
        for (String body : bodies) {
            Check d = new Check(100);
            d.run("self _Slots: { m = ( " + body + " ) }");
            d.world.sweep();
            Check.due(body, sends(d, "zip"), 1);
            Check.due("object", d.world.sender(0, 0), 3);
            Check.due("slot", d.world.sender(0, 1), 10);
        }
        String[] none = {"3", "zip: 3", "| zip | zip", "| zip | zip: 3", "'zip'", "zip.zap", "{ zip = 3 }", "{ zip = ( 3 ) }", "{ x = ( zip ) }", "zap: 1 Zip: 2",
            "[ | :zip | zip ]", "{ x = ( 3 zip ) }", "{ xy = ( [ 3 zip ] value ). z = ( zip ) }", "{ k: a = ( | b | { l: c = ( zip ) } ) }"};
        for (String body : none) {
            Check d = new Check(100);
            d.run("self _Slots: { m = ( " + body + " ) }");
            d.world.sweep();
            Check.due(body, sends(d, "zip"), 0);
        }
        Check d = new Check(100);
        d.run("self _Slots: { m = ( | zip | zip: 3 ). n: zip = ( zip: 3 ). o = ( | zip | self zip: 3 ). q = ( 1 + 2 ) }");
        d.world.sweep();
        Check.due("changing is none, an argument is not changed", sends(d, "zip:"), 2);
        Check.due("acts, too", sends(d, "_Same:"), 2);
        Check.due("of all methods", sends(d, "+"), 2);
        Check.due("slots of no methods", sends(d, "nowhere"), 0);
    }

    private static void sender() {
        Check.sentence("sender: The k-th of the latest senders(): the object (what 0), its slot (1), as they were then. -1 for what is none such");
        Check c = new Check(100);
        Check.due("ahead of all", c.world.sender(0, 0), -1);
        Check.due("two", sends(c, "_Same:"), 2);
        int[][] due = {{4, 8}, {5, 4}};
        for (int k = 0; k < 2; k++) {
            Check.due("object", c.world.sender(k, 0), due[k][0]);
            Check.due("slot", c.world.sender(k, 1), due[k][1]);
        }
        for (int k : new int[] {-1, 2, 600, Integer.MAX_VALUE, Integer.MIN_VALUE}) {
            Check.due("no " + k, c.world.sender(k, 0), -1);
            Check.due("no " + k, c.world.sender(k, 1), -1);
        }
        for (int what : new int[] {-1, 2, Integer.MAX_VALUE, Integer.MIN_VALUE}) {
            Check.due("another what", c.world.sender(0, what), -1);
        }
        c.world.senders(99);
        c.run("whole _Take: '+'");
        Check.due("as they were then", c.world.sender(0, 1), 8);
        sends(c, "zork");
        Check.due("none", c.world.sender(0, 0), -1);
    }

    private static void references() {
        Check.sentence("references: How many slots, elements, cells of what lives have an object (holders of activations, homes too: each one). "
            + "-1 for no object");
        Check c = new Check(300);
        Check.due("nil: lobby's slot", c.world.references(0), 1);
        Check.due("lobby: its own slot, and a parent of eight", c.world.references(3), 9);
        for (int none : WILD) {
            Check.due("no object " + none, c.world.references(none), -1);
        }
        c.run("self _Slots: { v <- nil. o <- nil }. o: { }. v: (_Vector: 60 Fill: o)");
        c.world.undo();
        c.run("self _Slots: { v <- nil. o <- nil }. o: { }. v: (_Vector: 60 Fill: o)");
        c.world.sweep();
        Check.due("60 elements and a slot", c.world.references(at(c, 11)), 61);
        int p = c.run("| a. b | a: o. b: o. zork");
        Check.due("two cells more", c.world.references(at(c, 11)), 63);
        Check.due("an activation", c.world.references(c.world.frame(p, 0, 0)), 0);
        Check.due("a process", c.world.references(p), 0);
        c.run("o _Define: { me = ( zork ) }");
        c.world.sweep();
        int before = c.world.references(at(c, 11));
        int q = c.run("o me");
        Check.due("a holder more, its self is none", c.world.references(at(c, 11)), before + 1);
        Check.due("free", c.world.references(299), -1);
        c.finish(q);
    }

    private static void hold() {
        Check.sentence("hold: Object o is HELD, or not: true; false if there is none");
        Check c = new Check(100);
        for (int none : WILD) {
            Check.due("no object " + none, c.world.hold(none, true), false);
            Check.due("no object " + none, c.world.hold(none, false), false);
        }
        int p = c.run("3");
        Check.due("not held", c.world.hold(p, false), true);
        Check.due("hold", c.world.hold(p, true), true);
        Check.due("again", c.world.hold(p, true), true);
        Check.due("held", c.world.object(p, 3), 1);
        Check.due("its activation goes", c.world.sweep(), 1);
        Check.due("once is enough", c.world.hold(p, false), true);
        Check.due("goes", c.world.sweep(), 1);
        Check.due("none", c.world.hold(p, true), false);
        Check.due("none", c.world.hold(99, true), false);
        Check.due("a new one with its number is not held", c.world.object(c.run("4"), 3), 0);
        Check.due("objects 0 to 9", c.world.hold(0, true), true);
        Check.due("held", c.world.object(0, 3), 1);
        Check.due("no longer", c.world.hold(0, false), true);
        c.world.sweep();
        Check.due("there always", c.world.object(0, 0), 0);
    }

    private static void sweep() {
        Check.sentence("sweep: A SWEEP: how many went");
        Check c = new Check(100);
        Check.due("none", c.world.sweep(), 0);
        c.run("_Vector: 3 Fill: 'abc'");
        Check.due("process, activation, string, vector", c.world.sweep(), 4);
        Check.due("none", c.world.sweep(), 0);
        Check.due("sweeps", c.world.count(10), 3);
        Check.due("objects", c.world.count(0), 10);
        Check full = new Check(100);
        full.run("1 to: 40 Do: [ | :i | { } ]");
        int live = full.world.count(0);
        Check.due("all but ten", full.world.sweep(), live - 10);
    }

    private static void undo() {
        Check.sentence("undo: The latest change that is kept is undone (the slots are as they were, with what they held then): true; false if there is none");
        Check c = new Check(300);
        Check.due("none", c.world.undo(), false);
        c.run("self _Slots: { a = { x <- 1. y = 2 } }");
        int a = at(c, 10);
        c.run("a x: 5. a _Take: 'x'. a _Slots: { x <- 7 }. a x: 8");
        Check.due("kept", c.world.count(6), 3);
        Check.due("_Slots:", c.world.undo(), true);
        Check.due("one slot", c.world.object(a, 1), 1);
        Check.due("_Take:", c.world.undo(), true);
        Check.due("with what they held then", c.world.value(a, 0), W + 5);
        Check.due("in order", c.selector(a, 1), "y");
        Check.due("lobby's", c.world.undo(), true);
        Check.due("slots of lobby", c.world.object(3, 1), 10);
        Check.due("none", c.world.undo(), false);
        Check.due("kept", c.world.count(6), 0);
        for (String change : new String[] {"_Define: { }", "_Slots: { e. f. g. h: x = ( 1 ). i }", "_Take: 'g'", "_Become: { j. k. l. m. n }"}) {
            Check d = new Check(300);
            d.run("self _Slots: { a = { e = 1. f <- 'x'. g = ( 3 ). h* = lobby. i* <- 4 } }");
            int o = at(d, 10);
            d.run("a " + change);
            Check.due(change, d.world.undo(), true);
            int[] kinds = {0, 1, 2, 4, 5};
            for (int i = 0; i < 5; i++) {
                Check.due("kind behind " + change, d.world.slot(o, i), kinds[i]);
                Check.due("selector behind " + change, d.selector(o, i), "" + (char) ('e' + i));
            }
            d.givesWhole("a g", 3);
            d.givesWhole("a i", 4);
        }
        Check.sentence("undo: of _Become: both");
        c.run("self _Slots: { a = { x <- 1 }. b = { y <- 2. z = 3 } }. a _Become: b. a y: 9");
        int b = at(c, 11);
        Check.due("undo", c.world.undo(), true);
        Check.due("a", c.world.value(at(c, 10), 0), W + 1);
        Check.due("b, with what it held then", c.world.value(b, 0), W + 2);
        c.run("a _Become: a");
        Check.due("with itself", c.world.undo(), true);
        Check.due("a", c.world.value(at(c, 10), 0), W + 1);
        c.run("a _Define: { }. a _Define: { q. r }");
        Check.due("undo", c.world.undo(), true);
        Check.due("no slots", c.world.object(at(c, 10), 1), 0);
    }

    /** Lobby gets objects with strings: each slot of p has its string's bytes and ten. */
    private static Check withLetters(int most) {
        Check c = new Check(300);
        for (int k = 0; k < 4; k++) {
            StringBuilder text = new StringBuilder("self _Slots: { o" + k + " = { ");
            for (int i = 0; i < 22; i++) {
                text.append("s" + (char) ('a' + i) + " = '" + SIXTY + "'. ");
            }
            c.run(text + "} }");
        }
        c.run("self _Slots: { p = { x = 1 } }");
        int rest = most - c.world.write();
        for (int k = 10; k < 34 && rest >= 10; k++) {
            int bytes = rest <= 70 ? rest - 10 : rest < 80 ? 40 : 50;
            c.run("p _Slots: { t" + k + " = '" + "c".repeat(bytes) + "' }");
            rest = most - c.world.write();
        }
        return c;
    }

    private static void write() {
        Check.sentence("write: how many bytes; -1 if more than 8000 (the latest ones stay)");
        Check c = withLetters(8000);
        Check.due("8000", c.world.write(), 8000);
        Check.due("bytes", c.world.count(8), 8000);
        c.run("p _Slots: { x = 12 }");
        Check.due("8001", c.world.write(), -1);
        Check.due("the latest ones stay", c.world.count(8), 8000);
        Check.due("the last byte", c.world.octets(7999), 0x0A00000000000000L);
        c.run("p _Slots: { x = [ ] }");
        Check.due("8003", c.world.write(), -1);
        Check.due("none of the latest is lost", c.world.count(9), 0);
        c.world.undo();
        c.world.undo();
        Check.due("8000 again", c.world.write(), 8000);
        // Lobby's slot z takes 26 bytes for the object and 7 for the slot ahead of the last line, and 16 there.
        Check d = withLetters(8000 - 26 - 7);
        d.run("self _Slots: { z = { } }");
        Check.due("8000 ahead of the last line", d.world.write(), -1);
        Check e = withLetters(8000 - 26 - 7 - 16);
        e.run("self _Slots: { z = { } }");
        Check.due("8000 with it", e.world.write(), 8000);
    }

    private static void lost() {
        Check.sentence("All others nil, which is a slot LOST");
        Check c = sorts();
        c.world.write();
        Check.due("vector, block, process, semaphore", c.world.count(9), 4);
        Check.due("of parents, too", c.written().contains("v <- nil. b <- nil. p <- nil. m <- nil }."), true);
        c.run("v: nil. b: nil. p: 3. m: 'x'");
        Check.due("those of the latest letters", c.world.count(9), 4);
        c.world.write();
        Check.due("none", c.world.count(9), 0);
    }

    /** The lines that a text adds to those of a new world. */
    private static void lines(String text, String... due) {
        Check c = new Check(100);
        c.run(text);
        c.world.write();
        String all = "\n" + c.written();
        for (String line : due) {
            Check.due(text + " gives " + line, all.contains("\n" + line + "\n"), true);
        }
    }

    private static void letters() {
        Check.sentence("Written are: for each that was met but objects 0 to 9 ..; then for each that was met, in order: its path, ' _Define: { ' .. "
            + "(of one without slots: ' _Define: { }.')");
        lines("self _Slots: { a = { } }", "self _Slots: { a = { } }.", "a _Define: { }.", "nil _Define: { }.");
        lines("self _Slots: { a = { b = { c = { } } } }", "self _Slots: { a = { } }.", "a _Slots: { b = { } }.", "a b _Slots: { c = { } }.",
            "a _Define: { b = a b }.", "a b _Define: { c = a b c }.", "a b c _Define: { }.");
        lines("self _Slots: { a = { b* <- lobby. m = ( 3 ). t* = nil } }", "a _Define: { b* <- self. m = ( 3 ). t* = nil }.");
        lines("self _Slots: { a = { x <- -2147483647 - 1. y = 0. z = 2147483647 } }", "a _Define: { x <- -2147483648. y = 0. z = 2147483647 }.");
        lines("self _Slots: { a = { x = ''. y = 'q\\n\\'\\\\ \"' } }", "a _Define: { x = ''. y = 'q\\n\\'\\\\ \"' }.");
        lines("self _Define: { }", "self _Define: { }.");
        Check c = new Check(100);
        c.run("self _Slots: { k <- nil }");
        c.world.undo();
        c.world.sweep();
        c.run("self _Slots: { k <- nil }");
        c.world.sweep();
        c.tell("3");
        c.tell("lobby. k: { }");
        c.world.turn(1);
        c.world.sweep();
        c.world.turn(10);
        Check.due("object 10 is none of 0 to 9", c.world.value(3, 10), 10);
        c.world.write();
        Check.due("it is written", c.written().startsWith("self _Slots: { k = { } }.\n"), true);
        Check.sentence("A WALK from lobby meets plain objects: each when it is met first");
        lines("self _Slots: { a = { }. b <- nil }. a _Slots: { x = { } }. b: a x", "self _Slots: { b = { } }.", "a _Define: { x = b }.", "b _Define: { }.");
        lines("self _Slots: { a = { m <- nil } }. a m: a", "a _Define: { m <- a }.");
        lines("nil _Slots: { q = { } }", "nil _Slots: { q = { } }.", "nil _Define: { q = nil q }.", "nil q _Define: { }.");
        lines("true _Slots: { up = { down* = true } }", "true _Slots: { up = { } }.", "true up _Define: { down* = true }.");
        lines("self _Take: 'whole'", "self _Define: { nil = nil. true = true. false = false. "
            + "lobby = self. string = string. vector = vector. block = block. process = process. semaphore = semaphore }.");
    }

    private static void methods() {
        Check.sentence("Of a method: what was told, from its selector's first word to its ), each run of blanks and notes as one blank "
            + "(but in a STRING, which stands as told)");
        lines("self _Slots: { a = { m=(3) } }", "a _Define: { m=(3) }.");
        lines("self _Slots: { a = {   m   =\n(\t3\r\n)   } }", "a _Define: { m = ( 3 ) }.");
        lines("self _Slots: { a = { m \"x\" = \"y\"\"z\" ( \"\" 3\"q\") } }", "a _Define: { m = ( 3 ) }.");
        lines("self _Slots: { a = { m = (3\"q\"+4) } }", "a _Define: { m = (3 +4) }.");
        lines("self _Slots: { a = { m = ( 'a  \"b\"  c\\n' ) } }", "a _Define: { m = ( 'a  \"b\"  c\\n' ) }.");
        lines("self _Slots: { a = { +  b  = ( b ). k:x  Ll:  y=( | z |  z ) } }", "a _Define: { + b = ( b ). k:x Ll: y=( | z | z ) }.");
        lines("self _Slots: { a = { m = ( { n = ( 3  ) . o } ) } }", "a _Define: { m = ( { n = ( 3 ) . o } ) }.");
        lines("self _Slots: { a = { m = ( 3 ). } }. a _Slots: { n = (4) }", "a _Define: { m = ( 3 ). n = (4) }.");
    }

    private static void octets() {
        Check.sentence("octets: Eight of these bytes from i on, the first one highest, 0 behind their end; 0 for i below 0");
        Check c = new Check(100);
        Check.due("nothing was written", c.world.octets(0), 0);
        Check.due("bytes", c.world.write(), 1399);
        Check.due("the first", c.world.octets(0), 0x73656C66205F4465L);
        Check.due("the next", c.world.octets(1), 0x656C66205F446566L);
        Check.due("the last", c.world.octets(1398), 0x0A00000000000000L);
        Check.due("the last eight end so", c.world.octets(1391) & 0xFFFF, 0x2E0A);
        for (int i : new int[] {1399, 8000, -1, -8, Integer.MAX_VALUE, Integer.MAX_VALUE - 7, Integer.MIN_VALUE}) {
            Check.due("from " + i, c.world.octets(i), 0);
        }
    }

    private static void fetch() {
        Check.sentence("fetch: The next bytes that went out, at most 7, which are taken: in the highest byte how many, then these; 0 if there are none");
        Check c = new Check(100);
        Check.due("none", c.world.fetch(), 0);
        c.run("'' _Print");
        Check.due("none", c.world.fetch(), 0);
        c.run("'abcdefg' _Print");
        Check.due("seven", c.world.fetch(), 0x0761626364656667L);
        Check.due("none", c.world.fetch(), 0);
        c.run("'abcdefgh' _Print");
        Check.due("seven of eight", c.world.fetch(), 0x0761626364656667L);
        Check.due("one waits", c.world.count(2), 1);
        c.run("'\\n~ ' _Print");
        Check.due("four", c.world.fetch(), 0x04680A7E20000000L);
        Check.due("none waits", c.world.count(2), 0);
        Check.due("none", c.world.fetch(), 0);
    }

    private static void count() {
        Check.sentence("count: -1 for another what");
        Check c = new Check(100);
        for (int what : new int[] {-1, 12, Integer.MAX_VALUE, Integer.MIN_VALUE}) {
            Check.due("count " + what, c.world.count(what), -1);
        }
        Check.sentence("count: 7 words of all texts without a fault");
        c.tell("3 + (4)");
        Check.due("words", c.world.count(7), 5);
        c.tell("3 + (4");
        c.tell("3 + 4 * 5");
        Check.due("with a fault none", c.world.count(7), 5);
        c.tell("\"no word\"");
        Check.due("notes are none", c.world.count(7), 5);
        c.tell("- 5. -5");
        Check.due("- is one", c.world.count(7), 5 + 5);
        Check.sentence("count: 11 activations made, 3 units in all, 4 processes that are not ended, 5 those in the row");
        Check.due("not ended", c.world.count(4), 3);
        Check.due("in the row", c.world.count(5), 3);
        c.world.turn(3000);
        Check.due("not ended", c.world.count(4), 0);
        Check.due("in the row", c.world.count(5), 0);
        Check.due("units", c.world.count(3), 2);
        Check.due("three texts and +", c.world.count(11), 4);
        c.run("zork");
        Check.due("not ended", c.world.count(4), 1);
        Check.due("in the row", c.world.count(5), 0);
    }

    private static void refused() {
        Check.sentence("A call that is refused changes nothing");
        Check c = sorts();
        c.run("zork");
        c.world.write();
        c.feed("zork and more than 20 bytes");
        long before = state(c);
        c.world.tell(99);
        c.world.tell(-1);
        c.world.turn(-1);
        c.world.turn(3001);
        c.world.find(99, 3);
        c.world.find(3, 0);
        c.world.find(3, 41);
        c.world.senders(0);
        c.world.senders(41);
        c.world.hold(99, true);
        c.world.mend(3, 0);
        c.world.mend(99, 0);
        Check.due("nothing", state(c), before);
    }

    private static long state(Check c) {
        long all = 0;
        for (int what = 0; what < 12; what++) {
            all = all * 31 + c.world.count(what);
        }
        for (int o = 0; o < 100; o++) {
            all = all * 31 + c.world.object(o, 0) + 7L * c.world.object(o, 1);
        }
        return all * 31 + c.world.fault(0) + c.world.found(0, 0) + c.world.sender(0, 0);
    }
}
