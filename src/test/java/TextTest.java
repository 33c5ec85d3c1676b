/** Promises 1 to 4: a new object, feed, tell, fault; and with them words and grammar. */
public final class TextTest {
    public static void main(String[] arguments) {
        newObject();
        feeding();
        telling();
        words();
        grammar();
        room();
        twice();
        unlikeAndCode();
        Check.end("TextTest");
    }

    /** How many objects a world of this size holds: it is filled up with a chain that lobby has. */
    private static int most(int objects) {
        Check c = new Check(objects);
        c.run("self _Slots: { k <- 0. c = { n <- 0 } }. [ true ] whileTrue: [ k: (c _Copy n: k) ]");
        return c.world.count(0);
    }

    private static void newObject() {
        int[][] sizes = {{100, 100}, {99, 300}, {600, 600}, {601, 300}, {0, 300}, {-5, 300}, {451, 451}};
        for (int[] size : sizes) {
            Check.due("objects of " + size[0], most(size[0]), size[1]);
        }
        SlotWorld w = new SlotWorld(100);
        Check.due("objects at first", w.count(0), 10);
        for (int what = 1; what < 12; what++) {
            Check.due("count " + what + " at first", w.count(what), 0);
        }
        Check.due("fault at first", w.fault(0), 0);
        Check.due("place at first", w.fault(1), -1);
        Check.due("another what", w.fault(2), -1);
        Check.due("undo at first", w.undo(), false);
        Check.due("slots of lobby", w.object(3, 1), 10);
        Check.due("slots of nil", w.object(0, 1), 0);
        Check.due("slots of whole", w.object(4, 1), 10);
        for (int i = 0; i < 10; i++) {
            Check.due("lobby's slot " + i, w.value(3, i), i);
            Check.due("its kind", w.slot(3, i), 0);
        }
    }

    private static void feeding() {
        SlotWorld w = new SlotWorld(100);
        for (int i = 0; i < 400; i++) {
            Check.due("feed " + i, w.feed(0x20202020, 0x20202020, 0x20202020, 0x20202020, 0x20202037), true);
        }
        Check.due("bytes", w.count(1), 8000);
        Check.due("feed 401", w.feed(0, 0, 0, 0, 0), false);
        Check.due("bytes stay", w.count(1), 8000);
        Check.due("tell one too many", w.tell(8001), -2);
        Check.due("tell below 0", w.tell(-1), -2);
        Check.due("bytes stay still", w.count(1), 8000);
        int p = w.tell(20);
        Check.due("the tape is empty", w.count(1), 0);
        w.turn(10);
        Check.due("the highest byte is first", w.answer(p, 0), Check.WHOLE + 7);
    }

    private static void telling() {
        Check c = new Check(100);
        Check.due("an empty text", c.world.tell(0), 10);
        c.world.turn(1);
        Check.due("its answer", c.world.answer(10, 0), 0);
        Check.due("with a fault", c.tell("("), -1);
        Check.due("that fault", c.world.fault(0), 1);
        Check.due("its place", c.world.fault(1), 1);
        Check.due("another what", c.world.fault(2), -1);
        Check.due("another what", c.world.fault(-1), -1);
        for (int i = 0; i < 12; i++) {
            Check.due("process " + i, c.tell("3"), 12 + i);
        }
        c.feed("4");
        Check.due("a 13th process", c.world.tell(1), -2);
        Check.due("refused: the tape stays", c.world.count(1), 20);
        Check.due("refused: the fault stays", c.world.fault(0), 0);
        Check.due("the last of the row", c.world.process(23, 3), 11);
        c.world.turn(1);
        Check.due("taken again", c.world.tell(1) >= 0, true);

        Check full = new Check(100);
        int p = full.run("self _Slots: { k <- 0. c = { n <- 0 } }. [ true ] whileTrue: [ k: (c _Copy n: k) ]");
        Check.due("no room", full.world.process(p, 4), 7);
        Check.due("what was worked out for what erred gives room", full.tell("3"), 40);
        int words = full.world.count(7);
        Check.due("without room for a process", full.tell("3 + 4"), -3);
        Check.due("it was read", full.world.count(7), words + 3);
        Check.due("it is no fault", full.world.fault(0), 0);
        Check.due("the tape is empty then", full.world.count(1), 0);
    }

    private static void words() {
        Check c = new Check(300);
        c.faults("\"any \u0001 bytes\" 3", 0, -1);
        c.faults("3 \"no end", 1, 2);
        c.faults("3\t+\r\n4", 0, -1);
        c.faults("3 # 4", 1, 2);
        c.faults("3 \u0000", 1, 2);
        c.faults("2147483647", 0, -1);
        c.faults("0000000000002147483647", 0, -1);
        c.faults("2147483648", 1, 0);
        c.faults("21474836470", 1, 0);
        c.faults("12a", 1, 0);
        c.faults("12_", 1, 0);
        c.faults("3 Foo", 1, 2);
        c.faults("3 _foo", 1, 2);
        c.faults("_Foo", 0, -1);
        c.faults("self", 0, -1);
        c.faults("selfish", 0, -1);
        c.faults("self: 3", 1, 0);
        c.faults("self.x", 1, 0);
        c.faults("self. x", 0, -1);
        c.faults("resend", 1, 0);
        c.faults("resend: 3", 1, 0);
        c.faults("resend.x", 0, -1);
        c.faults("x.y.z", 1, 2);
        c.faults("x.self", 1, 2);
        c.faults("x. y", 0, -1);
        c.faults("x.a.", 0, -1);
        c.faults("x.z: 3", 0, -1);
        c.faults("x.Z", 1, 2);
        c.faults("'a\\n\\'\\\\b'", 0, -1);
        c.faults("'a\\b'", 1, 0);
        c.faults("'a", 1, 0);
        c.faults("'a\nb'", 1, 0);
        c.faults("' ~'", 0, -1);
        c.faults("'\u007f'", 1, 0);
        c.faults("a: 1 Z: 2 A: 3", 0, -1);
        c.faults("'" + "a".repeat(59) + "\\n'", 0, -1);
        c.faults("'" + "a".repeat(61) + "'", 1, 0);
        // A name has 16 bytes at most: the 17th begins the next word.
        c.faults("| abcdefghijklmnop | abcdefghijklmnop", 0, -1);
        c.faults("| abcdefghijklmnopq | 3", 1, 18);
        c.faults("abcdefghijklmnopQ", 1, 16);
    }

    private static void grammar() {
        Check c = new Check(300);
        c.faults("", 0, -1);
        c.faults("  ", 0, -1);
        c.faults("3.", 0, -1);
        c.faults(".", 1, 0);
        c.faults("3 . .", 1, 4);
        c.faults("3 4", 1, 2);
        c.faults("(3", 1, 2);
        c.faults("(3  ", 1, 4);
        c.faults("()", 1, 1);
        c.faults("3)", 1, 1);
        c.faults("[]", 0, -1);
        c.faults("[ | | ]", 0, -1);
        c.faults("[ :a | 3 ]", 1, 2);
        c.faults("[ | :a. b. | a ]", 0, -1);
        c.faults("[ | :a <- 3 | a ]", 1, 7);
        c.faults("| a b | 3", 1, 4);
        c.faults("| a <- 3. b <- - 4. c | c", 0, -1);
        c.faults("| a <- x | 3", 1, 7);
        c.faults("| a <--4 | 3", 1, 4);
        c.faults("^ 3. ^ 4", 0, -1);
        c.faults("^ ^ 3", 1, 2);
        c.faults("(^ 3)", 1, 1);
        c.faults("foo: 3 Bar: 4", 0, -1);
        c.faults("Bar: 4", 1, 0);
        c.faults("3 Bar: 4", 1, 2);
        c.faults("foo: a bar: b Baz: c Bim: d", 0, -1);
        c.faults("foo: (a bar: b) Baz: c", 0, -1);
        c.faults("3 + foo: 4", 1, 4);
        c.faults("3 + - 4", 0, -1);
        c.faults("3 + - x", 1, 6);
        c.faults("3 + x.foo: 4", 1, 6);
        c.faults("x.foo: 4", 0, -1);
        c.faults("{ }", 0, -1);
        c.faults("{ . }", 1, 2);
        c.faults("{ x. y. }", 0, -1);
        c.faults("{ x.y }", 1, 2);
        c.faults("{ x *= 3 }", 1, 4);
        c.faults("{ x* <- 3. y*. z * = 4 }", 0, -1);
        c.faults("{ x = ( ) }", 1, 8);
        c.faults("{ x = ( | a | ) }", 1, 14);
        c.faults("{ x = ( 3 ) foo }", 1, 12);
        c.faults("{ x <- ( 3 ) foo }", 0, -1);
        c.faults("{ x* = ( 3 ) foo }", 0, -1);
        c.faults("{ + a = 3 }", 1, 8);
        c.faults("{ + a = ( 3 ). x: a Y: b = ( 4 ) }", 0, -1);
        c.faults("{ + a B: c = ( 3 ) }", 1, 6);
        c.faults("{ x: a <- ( 3 ) }", 1, 7);
        c.faults("{ self = 3 }", 1, 2);
    }

    private static String slots(int n) {
        StringBuilder text = new StringBuilder("{ ");
        for (int i = 0; i < n; i++) {
            text.append("x").append(i).append(". ");
        }
        return text.append("}").toString();
    }

    private static String cells(int from, int n, String ahead) {
        StringBuilder text = new StringBuilder();
        for (int i = from; i < from + n; i++) {
            text.append(ahead).append("x").append(i).append(". ");
        }
        return text.toString();
    }

    private static void room() {
        Check c = new Check(300);
        c.faults("(".repeat(12) + "3" + ")".repeat(12), 0, -1);
        c.faults("(".repeat(13) + "3" + ")".repeat(13), 2, 12);
        c.faults("((((((((((((]", 1, 12);
        c.faults("[".repeat(13) + "]".repeat(13), 2, 12);
        c.faults("a: ".repeat(12) + "3", 0, -1);
        c.faults("a: ".repeat(13) + "3", 2, 36);
        c.faults("(_Foo: " .repeat(6) + "[", 2, 42);
        c.faults("a: (b: 3) Foo: (b: 4)", 0, -1);
        c.faults("(1). ".repeat(14) + "[ ]. ".repeat(14) + "{ }. ".repeat(14) + "a: 1. ".repeat(14), 0, -1);
        c.faults("{ " + "a = ( 3 ). ".repeat(1) + "b <- [ ]. c <- (1) }. ".repeat(1) + "{ d = ( 3 ) }. ".repeat(14), 0, -1);
        c.faults(slots(24), 0, -1);
        c.faultsAt(slots(25), 2, "x24");
        c.faultsAt("| " + cells(0, 13, "") + "| 3", 2, "x12");
        c.faults("| " + cells(0, 12, "") + "| 3", 0, -1);
        c.faults("[ | " + cells(0, 8, ":") + cells(8, 4, "") + "| 3 ]", 0, -1);
        c.faultsAt("[ | " + cells(0, 9, ":") + "| 3 ]", 2, "x8");
        c.faultsAt("{ a: x0 B: x1 = ( | " + cells(2, 11, "") + "| 3 ) }", 2, "x12");
        c.faults("a: 1 B: 1 C: 1 D: 1 E: 1 F: 1 G: 1 H: 1", 0, -1);
        c.faultsAt("a: 1 B: 1 C: 1 D: 1 E: 1 F: 1 G: 1 H: 1 I: 1", 2, "I:");
        c.faultsAt("{ a: b B: c C: d D: e E: f F: g G: h H: i I: j = ( 3 ) }", 2, "I:");
        String fifteen = "bcdefghijklmno";
        c.faults("a" + fifteen + ": 1 A" + fifteen + ": 1 B" + fifteen + ": 1 C" + fifteen.substring(4) + ": 1", 0, -1);
        c.faultsAt("a" + fifteen + ": 1 A" + fifteen + ": 1 B" + fifteen + ": 1 C" + fifteen + ": 1", 2, "C" + fifteen);
        c.faults("3 " + "+".repeat(60) + " 4", 0, -1);
        c.faults("3 " + "+".repeat(61) + " 4", 2, 2);
        c.faults("{ " + "+".repeat(61) + " a = ( 3 ) }", 2, 2);
        Check d = new Check(300);
        d.faults("1.".repeat(2000), 0, -1);
        Check.due("words", d.world.count(7), 4000);
        Check e = new Check(300);
        e.faults("1.".repeat(2000) + "1", 2, 4000);
        e.faults("1.".repeat(2000) + ")", 1, 4000);
        e.faults("1.".repeat(1998) + "-1+2*3", 2, 4000);
        e.faults("1.".repeat(1998) + "1+2*3", 4, 3999);
        Check.due("no words", e.world.count(7), 0);
    }

    private static void twice() {
        Check c = new Check(300);
        c.faults("| a. a | 3", 3, 5);
        c.faults("[ | :a. :a | 3 ]", 3, 9);
        c.faults("[ | a. [ | a | 3 ] | 3 ]", 1, 7);
        c.faults("[ | a | [ | a | 3 ] ]", 0, -1);
        c.faults("{ x: a Y: a = ( 3 ) }", 3, 10);
        c.faults("{ x: a = ( | a | 3 ) }", 3, 13);
        c.faults("{ x = 3. x <- 4 }", 3, 11);
        c.faults("{ x = 3. x* <- 4 }", 3, 12);
        c.faults("{ x = 3. x . y }", 3, 11);
        c.faults("{ x = 3. x }", 3, 11);
        c.faults("{ + a = ( 3 ). + b = ( 4 ) }", 3, 19);
        c.faults("{ x <- 3. x: a = ( 4 ) }", 3, 15);
        c.faults("{ x = 3. x: a = ( 4 ) }", 0, -1);
        c.faults("{ x: a = ( 4 ). x <- 3 }", 3, 18);
        c.faults("{ x: a = ( 4 ). x = 3 }", 0, -1);
        c.faults("{ x: a Y: b = ( 4 ). x <- 3 }", 0, -1);
        c.faults("| :a | 3", 3, 2);
        c.faults("[ | a. :b | 3 ]", 3, 7);
        c.faults("{ x = ( | :a | 3 ) }", 3, 10);
    }

    private static void unlikeAndCode() {
        Check c = new Check(300);
        c.faults("3 + 4 - 5", 4, 6);
        c.faults("3 + (4 - 5) + 6", 0, -1);
        c.faults("3 - -4 - 5", 0, -1);
        c.faults("3 + 4 -5", 4, 6);
        c.faults("3 + 4 * ", 4, 6);
        Check d = new Check(300);
        d.faults("1.".repeat(2000), 0, -1);
        d.faults("1.".repeat(1999) + " ", 0, -1);
        d.faults("1.1  ", 5, 5);
        d.faults("1.(  ", 1, 5);
        d.faults("1.", 0, -1);
        Check.due("all words", d.world.count(7), 8000);
        d.faults("", 0, -1);
        d.faults("1", 5, 1);
    }
}
