/** Promises 23 to 26: write, octets, fetch, count. */
public final class LetterTest {
    private static final String KERNEL_LOBBY = "self _Define: { nil = nil. true = true. false = false. lobby = self. "
        + "whole = whole. string = string. vector = vector. block = block. process = process. semaphore = semaphore";

    public static void main(String[] arguments) {
        writing();
        retelling();
        tooMany();
        fetching();
        counting();
        Check.end("LetterTest");
    }

    private static void writing() {
        Check c = new Check(300);
        Check.due("octets ahead of a write", c.world.octets(0), 0);
        Check.due("at first", c.world.write(), 1399);
        Check.due("begins", c.written().startsWith(KERNEL_LOBBY + " }.\nnil _Define: { }.\ntrue _Define: { parent* = self. ifTrue: b = ( b value ). "), true);
        Check.due("ends", c.written().endsWith("semaphore _Define: { parent* = self. wait = ( _Wait ). signal = ( _Signal ) }.\n"), true);
        Check.due("octets", c.world.octets(0), 0x73656C66205F4465L);
        Check.due("octets at the end", c.world.octets(1397), 0x2E0A000000000000L);
        Check.due("behind the end", c.world.octets(1399), 0);
        Check.due("below 0", c.world.octets(-1), 0);
        Check.due("the greatest", c.world.octets(Integer.MAX_VALUE), 0);
        c.run("self _Slots: { a = { up* <- lobby. n = -5. s <- 'it\\'s\\n\\\\'. v <- (_Vector: 1 Fill: 1). inner = { }. "
            + "m = \"note\" (   [ | :x |x]   \"two\"\"notes\" value: 'a  \"b\"'  ). + k=(k) } }");
        c.run("self _Slots: { b = a. w <- 7. z = a inner }");
        Check.due("written", c.world.write() > 1399, true);
        String[] lines = c.written().split("\n");
        Check.due("first", lines[0], "self _Slots: { a = { } }.");
        Check.due("second", lines[1], "self _Slots: { z = { } }.");
        Check.due("lobby", lines[2], KERNEL_LOBBY + ". a = a. b = a. w <- 7. z = z }.");
        boolean[] seen = new boolean[2];
        for (String line : lines) {
            seen[0] |= line.equals("a _Define: { up* <- self. n = -5. s <- 'it\\'s\\n\\\\'. v <- nil. inner = z. "
                + "m = ( [ | :x |x] value: 'a  \"b\"' ). + k=(k) }.");
            seen[1] |= line.equals("z _Define: { }.");
        }
        Check.due("the object", seen[0], true);
        Check.due("one without slots", seen[1], true);
        Check.due("lost", c.world.count(9), 1);
        Check.due("bytes", c.world.count(8), c.written().length());
        c.run("self _Slots: { z = 3 }");
        c.world.write();
        Check.due("paths", c.written().startsWith("self _Slots: { a = { } }.\na _Slots: { inner = { } }.\nself _Define"), true);
        Check.due("paths", c.written().contains("inner = a inner. m ="), true);
        Check.due("paths", c.written().contains("\na inner _Define: { }.\n"), true);
    }

    /** Letters that are told in a new world give the same letters again. */
    private static void retelling() {
        Check c = new Check(300);
        c.run("self _Slots: { point = { parent* = lobby. x <- 3. y <- -4. + p = ( (_Copy x: x + p x) y: y + p y ) } }");
        c.run("self _Slots: { list = { first = point _Copy. rest* = { more = point. name = 'n\\\\m' } } }. whole _Slots: { twice = ( self + self ) }");
        c.world.write();
        String letters = c.written();
        Check d = new Check(300);
        int p = d.run(letters);
        Check.due("told without a fault", d.world.fault(0), 0);
        Check.due("worked out", d.world.process(p, 0), 2);
        d.world.write();
        Check.due("the same letters", d.written(), letters);
        d.givesWhole("(point + list first) x", 6);
        d.givesWhole("21 twice", 42);
    }

    private static void tooMany() {
        Check c = new Check(600);
        c.world.write();
        c.run("self _Slots: { c = { }. k <- 0 }. k: c. 1 to: 60 Do: [ | :i | k _Slots: { abcdefghijklmnop = { } }. k: k abcdefghijklmnop ]");
        Check.due("more than 8000", c.world.write(), -1);
        Check.due("the latest ones stay", c.world.count(8), 1399);
        Check.due("the latest ones stay", c.world.octets(0), 0x73656C66205F4465L);
        // A slot with a string of 60 bytes takes 70 more, and the last one what is left up to 8000.
        Check d = new Check(600);
        String sixty = "b".repeat(60);
        for (int k = 0; k < 4; k++) {
            StringBuilder text = new StringBuilder("self _Slots: { o" + k + " = { ");
            for (int i = 0; i < 22; i++) {
                text.append("s" + (char) ('a' + i) + "xy = '" + sixty + "'. ");
            }
            d.run(text + "} }");
        }
        int rest = 8000 - d.world.write();
        StringBuilder last = new StringBuilder("self _Slots: { p = { ");
        int many = (rest - 100) / 70;
        for (int i = 0; i < many; i++) {
            last.append("s" + (char) ('a' + i) + "xy = '" + sixty + "'. ");
        }
        d.run(last + "y = ''. z = '' } }");
        int more = (8000 - d.world.write()) / 2;
        d.run("p _Slots: { y = '" + "c".repeat(more) + "' }");
        more = 8000 - d.world.write();
        d.run("p _Slots: { z = '" + "c".repeat(more) + "' }");
        Check.due("8000 bytes", d.world.write(), 8000);
        d.run("p _Slots: { z = '" + "c".repeat(more + 1) + "' }");
        Check.due("8001 bytes", d.world.write(), -1);
        Check.due("the latest ones stay", d.world.count(8), 8000);
    }

    private static void fetching() {
        Check c = new Check(300);
        Check.due("none", c.world.fetch(), 0);
        c.run("'abcdefghi' _Print");
        Check.due("waits", c.world.count(2), 9);
        Check.due("seven", c.world.fetch(), 0x0761626364656667L);
        Check.due("two are left", c.world.count(2), 2);
        Check.due("two", c.world.fetch(), 0x0268690000000000L);
        Check.due("none", c.world.fetch(), 0);
        c.run("'' _Print. 7 _Print");
        Check.due("one", c.world.fetch(), 0x0137000000000000L);
    }

    private static void counting() {
        Check c = new Check(300);
        c.feed("3 + 4 . zork");
        Check.due("tape", c.world.count(1), 20);
        int p = c.world.tell(12);
        Check.due("words", c.world.count(7), 5);
        Check.due("not ended", c.world.count(4), 1);
        Check.due("in the row", c.world.count(5), 1);
        c.world.turn(100);
        Check.due("objects", c.world.count(0), 13);
        Check.due("units", c.world.count(3), 3);
        Check.due("not ended", c.world.count(4), 1);
        Check.due("in the row", c.world.count(5), 0);
        Check.due("activations", c.world.count(11), 2);
        Check.due("sweeps", c.world.count(10), 0);
        c.world.sweep();
        Check.due("sweeps", c.world.count(10), 1);
        Check.due("objects", c.world.count(0), 12);
        c.world.mend(p, 0);
        c.run("self _Slots: { a = 3 }");
        Check.due("changes", c.world.count(6), 1);
        Check.due("words", c.world.count(7), 12);
        Check.due("with a fault", c.tell("3 3"), -1);
        Check.due("words stay", c.world.count(7), 12);
        Check.due("another what", c.world.count(12), -1);
        Check.due("another what", c.world.count(-1), -1);
    }
}
