/** The boundary cases of the acts of the house, sentence by sentence. */
public final class EdgeActTest {
    private static final long W = Check.WHOLE;
    private static final String LEAST = "(-2147483647 _Sub: 1)";
    private static final String[] REASONS = "type overflow divisor index size name full count digits act".split(" ");

    public static void main(String[] arguments) {
        passing();
        reasons();
        arithmetic();
        shifts();
        comparing();
        copies();
        vectors();
        joining();
        digits();
        bytes();
        performing();
        restarting();
        telling();
        printing();
        looks();
        slots();
        otherChanges();
        kept();
        Check.end("EdgeActTest");
    }

    private static void gives(String text, long want) {
        new Check(300).givesWhole(text, want);
    }

    private static void givesObject(String text, long want) {
        new Check(300).gives(text, want);
    }

    private static void givesString(String text, String want) {
        new Check(300).givesString(text, want);
    }

    /** The act fails for this reason; behind some text that it needs. */
    private static void fails(String ahead, String act, String reason) {
        Check c = new Check(300);
        c.run(ahead);
        int p = c.run(act);
        Check.due(act + ": error", c.world.process(p, 4), 3);
        int number = c.world.process(p, 5);
        Check.due(act + ": reason", number < 1 || number > 10 ? "none" : REASONS[number - 1], reason);
        c.finish(p);
        boolean none = act.lastIndexOf(':') < act.lastIndexOf('_');
        c.givesString(act + (none ? "IfFail: " : " IfFail: ") + "[ | :r | r ]", reason);
    }

    private static void fails(String act, String reason) {
        fails("", act, reason);
    }

    private static void passing() {
        Check.sentence("With IfFail: as their last part an act that FAILS gives its REASON to b (as value: a string; that is the answer)");
        gives("1 + (2 _Add: nil IfFail: [ | :r | r _Size ])", 5);
        gives("1 + (2 _Add: 3 IfFail: [ | :r | r _Size ])", 6);
        gives("2 _Add: 3 IfFail: 7", 5);
        gives("'abc' _SizeIfFail: 7", 3);
        gives("7 _SizeIfFail: [ | :r | 8 ]", 8);
        gives("7 _SizeIfFail: { value: r = ( 9 ) }", 9);
        givesString("{ value <- 3 } _Size: 4 IfFail: [ | :r | r ]", "act");
        Check c = new Check(300);
        c.errs("7 _SizeIfFail: 8", 1, "value:", 1);
        c.errs("7 _SizeIfFail: [ 8 ]", 4, "value:", 1);
        c.errs("7 _SizeIfFail: [ | :a. :b | 8 ]", 4, "value:", 1);
        c.errs("7 _IfFail: 8 Size: 9", 3, "_IfFail:Size:", 2);
        Check.sentence("Else the error ACT");
        int p = c.stops("7 _Size", 3, "_Size", W + 7, 0);
        Check.due("reason", c.world.process(p, 5), 1);
        Check.sentence("10 act (no such one)");
        for (String act : new String[] {"3 _Zork", "3 _Zork: 4", "3 _Zork: 4 Mork: 5", "3 _Add", "3 _Add: 4 Sub: 5", "3 _Size: 4", "3 _ADD: 4",
            "3 _Add_: 4", "3 _At: 4 Fill: 5", "3 _Vector: 4", "3 _AddIf", "3 _Copy_", "3 _Abcdefghi", "3 _Abcdefghijklmno: 4"}) {
            fails(act, "act");
        }
    }

    private static void reasons() {
        Check.sentence("1 type (of what it goes to, then of arguments, from the left)");
        // A type that is wrong goes ahead of all else that is wrong.
        fails("nil _Div: 0", "type");
        fails("nil _Add: nil", "type");
        fails("3 _Shift: nil", "type");
        fails("3 _At: 99", "type");
        fails("'a' _At: nil", "type");
        fails("'a' _At: 99 Put: 3", "type");
        fails("_Vector: 'a' Fill: 3", "type");
        fails("3 _Perform: 4 With: 5", "type");
        fails("3 _Perform: '_Add:' With: 5", "type");
        fails("3 _Perform: '' With: 5", "type");
        fails("3 _Kind: 'zork'", "type");
        fails("{ } _Kind: 4", "type");
        fails("3 _Peek: 'zork'", "type");
        fails("{ } _Peek: 4", "type");
        fails("3 _Take: 'zork'", "type");
        fails("{ } _Take: 4", "type");
        fails("3 _Slots: { }", "type");
        fails("{ } _Slots: 3", "type");
        fails("3 _Define: { }", "type");
        fails("{ } _Define: 'a'", "type");
        fails("3 _Become: { }", "type");
        fails("{ } _Become: [ ]", "type");
        fails("_Semaphore: nil", "type");
        fails("_Semaphore: '1'", "type");
    }

    private static void arithmetic() {
        Check.sentence("_Add: _Sub: _Mul: _Div: (towards 0) _Mod: (its rest): overflow beyond 32 bits; divisor: by 0");
        gives("2147483646 _Add: 1", 2147483647);
        fails("2147483647 _Add: 1", "overflow");
        gives(LEAST + " _Add: 0", -2147483648L);
        fails(LEAST + " _Add: -1", "overflow");
        fails(LEAST + " _Add: " + LEAST, "overflow");
        fails(LEAST + " _Sub: 1", "overflow");
        fails("0 _Sub: " + LEAST, "overflow");
        gives("-1 _Sub: " + LEAST, 2147483647);
        gives("1 _Mul: " + LEAST, -2147483648L);
        fails("-1 _Mul: " + LEAST, "overflow");
        fails(LEAST + " _Mul: " + LEAST, "overflow");
        gives("46340 _Mul: 46340", 2147395600);
        fails("46341 _Mul: 46341", "overflow");
        gives("-65536 _Mul: 32768", -2147483648L);
        fails("65536 _Mul: 32768", "overflow");
        fails(LEAST + " _Div: -1", "overflow");
        gives(LEAST + " _Div: 1", -2147483648L);
        gives("7 _Div: -2", -3);
        gives("-7 _Div: 2", -3);
        gives("-7 _Div: -2", 3);
        gives("1 _Div: 2", 0);
        fails("0 _Div: 0", "divisor");
        fails(LEAST + " _Div: 0", "divisor");
        gives("7 _Mod: -2", 1);
        gives("-7 _Mod: 2", -1);
        gives("-7 _Mod: -2", -1);
        gives(LEAST + " _Mod: -1", 0);
        gives("0 _Mod: 5", 0);
        fails("0 _Mod: 0", "divisor");
        Check.sentence("_And: _Or: _Xor: a: of two wholes");
        gives(LEAST + " _And: -1", -2147483648L);
        gives(LEAST + " _Or: 2147483647", -1);
        gives(LEAST + " _Xor: -1", 2147483647);
        for (String act : "_Add: _Sub: _Mul: _Div: _Mod: _And: _Or: _Xor: _Shift: _Less:".split(" ")) {
            fails("3 " + act + " 'a'", "type");
            fails("nil " + act + " 4", "type");
        }
    }

    private static void shifts() {
        Check.sentence("_Shift: a: left by 0 .. 31 (overflow beyond 32 bits), right with sign by -1 .. -31 (else index)");
        gives("5 _Shift: 0", 5);
        gives("1 _Shift: 30", 1073741824);
        fails("1 _Shift: 31", "overflow");
        fails("2 _Shift: 30", "overflow");
        gives("-1 _Shift: 31", -2147483648L);
        gives("-2 _Shift: 30", -2147483648L);
        fails("-2 _Shift: 31", "overflow");
        gives("0 _Shift: 31", 0);
        fails(LEAST + " _Shift: 1", "overflow");
        fails("2147483647 _Shift: 31", "overflow");
        gives("5 _Shift: -1", 2);
        gives("-5 _Shift: -1", -3);
        gives(LEAST + " _Shift: -31", -1);
        gives("2147483647 _Shift: -31", 0);
        gives("2147483647 _Shift: -30", 1);
        for (String by : new String[] {"32", "-32", "33", "2147483647", LEAST, "64", "-64"}) {
            fails("0 _Shift: " + by, "index");
        }
    }

    private static void comparing() {
        Check.sentence("_Less: a: of wholes, true or false");
        givesObject(LEAST + " _Less: 2147483647", 1);
        givesObject("2147483647 _Less: " + LEAST, 2);
        givesObject("3 _Less: 3", 2);
        Check.sentence("_Same: x: whether both are the same whole or object");
        givesObject("3 _Same: 3", 1);
        givesObject("3 _Same: 4", 2);
        givesObject("3 _Same: lobby", 2);
        givesObject("lobby _Same: 3", 2);
        givesObject("nil _Same: nil", 1);
        givesObject("'' _Same: ''", 1);
        givesObject("[ ] _Same: [ ]", 2);
        givesObject("{ } _Same: { }", 2);
    }

    private static void copies() {
        Check.sentence("_Copy: a plain one, or a vector, with the same slots, elements (others: type)");
        gives("({ a = 1. b <- 2 } _Copy b: 5) b", 5);
        gives("{ } _Copy _Names _Size", 0);
        gives("(_Vector: 0 Fill: 0) _Copy _Size", 0);
        gives("(_Vector: 60 Fill: 7) _Copy _At: 59", 7);
        gives("lobby _Copy _Names _Size", 10);
        givesObject("nil _Copy _Same: nil", 2);
        for (String none : new String[] {"3", "'abc'", "[ ]", "([ ] _Spawn)", "(_Semaphore: 0)"}) {
            fails(none + " _Copy", "type");
        }
    }

    private static void vectors() {
        Check.sentence("_Vector: n Fill: x (to anything): a new vector (size: not 0 .. 60)");
        gives("(_Vector: 0 Fill: 3) _Size", 0);
        gives("(nil _Vector: 60 Fill: 3) _Size", 60);
        gives("('a' _Vector: 60 Fill: 3) _At: 59", 3);
        for (String n : new String[] {"-1", "61", "2147483647", LEAST}) {
            fails("_Vector: " + n + " Fill: 3", "size");
        }
        Check.sentence("_Size, _At: i: of a vector, or a string (a byte); index");
        gives("'' _Size", 0);
        gives("'" + "a".repeat(60) + "' _Size", 60);
        gives("'abc' _At: 0", 97);
        gives("'abc' _At: 2", 99);
        gives("'\\n' _At: 0", 10);
        for (String i : new String[] {"-1", "3", "2147483647", LEAST}) {
            fails("'abc' _At: " + i, "index");
            fails("(_Vector: 3 Fill: 0) _At: " + i, "index");
            fails("(_Vector: 3 Fill: 0) _At: " + i + " Put: 1", "index");
        }
        fails("'' _At: 0", "index");
        fails("(_Vector: 0 Fill: 0) _At: 0", "index");
        for (String none : new String[] {"3", "nil", "[ ]", "(_Semaphore: 5)"}) {
            fails(none + " _Size", "type");
            fails(none + " _At: 0", "type");
            fails(none + " _At: 0 Put: 0", "type");
        }
        Check.sentence("_At: i Put: x: of a vector, its answer the vector");
        gives("((_Vector: 60 Fill: 3) _At: 59 Put: 8) _At: 59", 8);
        gives("((_Vector: 60 Fill: 3) _At: 59 Put: 8) _At: 58", 3);
        givesObject("| v | v: (_Vector: 1 Fill: 3). v _At: 0 Put: v. (v _At: 0) _Same: v", 1);
    }

    private static void joining() {
        Check.sentence("_Join: s: of strings; size");
        String thirty = "'" + "a".repeat(30) + "'";
        gives("(" + thirty + " _Join: " + thirty + ") _Size", 60);
        fails("(" + thirty + " _Join: " + thirty + ") _Join: 'a'", "size");
        fails("'a' _Join: (" + thirty + " _Join: " + thirty + ")", "size");
        gives("((" + thirty + " _Join: " + thirty + ") _Join: '') _Size", 60);
        gives("('' _Join: '') _Size", 0);
        fails("'a' _Join: 3", "type");
        fails("3 _Join: 'a'", "type");
    }

    private static void digits() {
        Check.sentence("_Text: a whole's digits, - ahead below 0; of a string that");
        givesString("0 _Text", "0");
        givesString("-1 _Text", "-1");
        givesString("10 _Text", "10");
        givesString("2147483647 _Text", "2147483647");
        givesString(LEAST + " _Text", "-2147483648");
        givesString("1000000000 _Text", "1000000000");
        givesString("'' _Text", "");
        fails("nil _Text", "type");
        fails("(_Vector: 1 Fill: 65) _Text", "type");
        Check.sentence("_Whole: of a string, such digits (at least one, noughts ahead too; digits: others, or beyond 32 bits)");
        gives("'0' _Whole", 0);
        gives("'000' _Whole", 0);
        gives("'" + "0".repeat(59) + "7' _Whole", 7);
        gives("'-" + "0".repeat(58) + "7' _Whole", -7);
        gives("'2147483647' _Whole", 2147483647);
        gives("'-2147483648' _Whole", -2147483648L);
        for (String none : new String[] {"", "-", "--1", "+1", " 1", "1 ", "1a", "a", "1-", "-a", "2147483648", "-2147483649", "4294967296",
            "18446744073709551616", "9".repeat(60), "-" + "9".repeat(59), "1.0", "\\n"}) {
            fails("'" + none + "' _Whole", "digits");
        }
        fails("3 _Whole", "type");
    }

    private static void bytes() {
        Check.sentence("_Bytes: of a vector of wholes (type), of bytes that a string can have (10, 32 .. 126; index, all being wholes)");
        givesString("(_Vector: 0 Fill: 0) _Bytes", "");
        givesString("(_Vector: 60 Fill: 126) _Bytes", "~".repeat(60));
        givesString("(_Vector: 1 Fill: 32) _Bytes", " ");
        givesString("(_Vector: 2 Fill: 10) _Bytes", "\n\n");
        givesString("(_Vector: 1 Fill: 39) _Bytes", "'");
        for (String none : new String[] {"31", "127", "9", "11", "13", "0", "-1", "266", "288", "2147483647", LEAST}) {
            fails("(_Vector: 1 Fill: " + none + ") _Bytes", "index");
        }
        fails("((_Vector: 2 Fill: 0) _At: 1 Put: nil) _Bytes", "type");
        fails("((_Vector: 2 Fill: 0) _At: 0 Put: 'a') _Bytes", "type");
        fails("((_Vector: 60 Fill: 65) _At: 59 Put: 127) _Bytes", "index");
        fails("'a' _Bytes", "type");
    }

    private static void performing() {
        Check.sentence("_Perform: s With: v: (name: no selector, one of more than 8 parts, or _.. ; count: unlike many)");
        String sixteen = "abcdefghijklmnop";
        Check c = new Check(300);
        c.run("self _Slots: { u = { unknown: s With: v = ( s ) } }");
        String[] names = {"a", "aZ9_", sixteen, "+", "+-*/%<>=&~!@,?", "<-", "a:", sixteen + ":", "a:B:", "a:B" + sixteen.substring(1) + ":",
            "a:B:C:D:E:F:G:H:", "selfish", "self_:", "resendx", "a:Self:", "-", "*".repeat(60)};
        int[] parts = {0, 0, 0, 1, 1, 1, 1, 1, 2, 2, 8, 0, 1, 0, 2, 1, 1};
        for (int i = 0; i < names.length; i++) {
            c.givesString("u _Perform: '" + names[i] + "' With: (_Vector: " + parts[i] + " Fill: 3)", names[i]);
            String more = "u _Perform: '" + names[i] + "' With: (_Vector: " + (parts[i] + 1) + " Fill: 3)";
            fails("self _Slots: { u = { unknown: s With: v = ( s ) } }", more, "count");
        }
        for (String none : new String[] {"", "A", "Ab:", "_", "_Add:", "_Size", "9", "a9 ", " a", "a b", "a.b", "a:b:", "a:B", "a::", ":", "a:B:c:", "a+", "+a",
            "++.", "self", "self:", "resend", "resend:", "self:With:", sixteen + "q", sixteen + "q:", "a:B" + sixteen + ":", "a:B:C:D:E:F:G:H:I:", "a\\n", "(", "^", "a:_b:"}) {
            fails("3 _Perform: '" + none + "' With: (_Vector: 0 Fill: 3)", "name");
            fails("3 _Perform: '" + none + "' With: (_Vector: 9 Fill: 3)", "name");
        }
        fails("3 _Perform: 'a:' With: (_Vector: 0 Fill: 3)", "count");
        fails("3 _Perform: 'a' With: (_Vector: 60 Fill: 3)", "count");
        Check.sentence("That message with these arguments is sent");
        gives("3 _Perform: '+' With: (_Vector: 1 Fill: 4)", 7);
        gives("[ 5 ] _Perform: 'value' With: (_Vector: 0 Fill: 4)", 5);
        gives("({ x <- 1 } _Perform: 'x:' With: (_Vector: 1 Fill: 4)) x", 4);
        Check d = new Check(300);
        d.errs("{ } _Perform: 'nowhereTold:' With: (_Vector: 1 Fill: 4)", 1, "nowhereTold:", 1);
        d.errs("[ 5 ] _Perform: 'value:' With: (_Vector: 1 Fill: 4)", 4, "value:", 1);
        d.errs("{ } _Perform: 'a:B:C:D:E:F:G:H:' With: (_Vector: 8 Fill: 4)", 1, "a:B:C:D:E:F:G:H:", 8);
        int units = d.world.count(3);
        d.run("3 _Perform: '=' With: (_Vector: 1 Fill: 4)");
        Check.due("what it passes on is no unit", d.world.count(3), units + 3);
    }

    private static void restarting() {
        Check.sentence("_Restart: the body at work begins again at its first statement, its cells as they are");
        gives("| n <- 0. m | n: n + 1. n = 3 ifTrue: [ ^ n ]. m: n. _Restart", 3);
        gives("| n <- 0. m <- 0 | n: n + 1. n = 3 ifTrue: [ ^ m ]. m: n. 7 + _Restart", 2);
        gives("| n <- 0 | [ n: n + 1. n < 5 ifTrue: [ nil ] False: [ ^ n ]. _Restart ] value", 5);
        gives("{ m: a = ( | k | k: a. a = 3 ifTrue: [ ^ 8 ]. _RestartIfFail: 3 ) } m: 3", 8);
        Check c = new Check(300);
        int made = c.world.count(11);
        int p = c.tell("| n <- 0 | n: (n _Add: 1). _Restart");
        c.world.turn(10);
        Check.due("units", c.world.process(p, 1), 10);
        Check.due("no new activation", c.world.count(11), made + 1);
        Check.due("its cell", c.world.value(c.world.frame(p, 0, 0), 0), W + 5);
        // What it was working out is left.
        Check d = new Check(300);
        p = d.tell("'abc' foo: 'def' Bar: _Restart");
        d.world.turn(1);
        Check.due("both strings go", d.world.sweep(), 2);
        for (int k = 0; k < 5; k++) {
            Check.due("units", d.world.turn(3000), 3000);
        }
        Check.due("one activation", d.world.process(p, 2), 1);
    }

    private static void telling() {
        Check.sentence("_Error: x: error TOLD");
        Check c = new Check(300);
        int p = c.stops("3 _Error: nil", 8, "_Error:", W + 3, 1);
        Check.due("nil", c.world.answer(p, 2), 0);
        p = c.stops("3 _Error: " + LEAST, 8, "_Error:", W + 3, 1);
        Check.due("the least", c.world.answer(p, 2), W - 2147483648L);
        Check.due("no reason", c.world.process(p, 5), 0);
        p = c.stops("3 _Error: 4 IfFail: [ | :r | 5 ]", 8, "_Error:IfFail:", W + 3, 2);
        Check.due("it does not fail", c.world.answer(p, 2), W + 4);
    }

    private static void printing() {
        Check.sentence("_Print: its letters go out (at most 4000 wait; what is beyond is lost); its answer what it was sent to");
        Check c = new Check(300);
        c.givesWhole(LEAST + " _Print", -2147483648L);
        c.givesString("'' _Print", "");
        Check.due("letters", c.fetched(), "-2147483648");
        c.run("1 to: 66 Do: [ | :i | '" + "a".repeat(60) + "' _Print ]");
        Check.due("3960 wait", c.world.count(2), 3960);
        c.givesString("'" + "b".repeat(40) + "' _Print", "b".repeat(40));
        Check.due("4000 wait", c.world.count(2), 4000);
        c.givesWhole("7 _Print", 7);
        Check.due("4000 wait", c.world.count(2), 4000);
        c.world.fetch();
        c.givesString("'cdefghijkl' _Print", "cdefghijkl");
        Check.due("4000 wait", c.world.count(2), 4000);
        for (int k = 0; k < 100; k++) {
            c.world.fetch();
        }
        Check.due("3300 wait", c.world.count(2), 3300);
        for (String none : new String[] {"nil", "[ ]", "{ }", "(_Vector: 1 Fill: 65)"}) {
            fails(none + " _Print", "type");
        }
    }

    private static void looks() {
        Check.sentence("_Names: a vector of the selectors (strings; made in order, then the vector)");
        gives("{ } _Names _Size", 0);
        Check c = new Check(300);
        int v = (int) c.answer("{ zz1. zz2 = ( 3 ). + a = ( 4 ). zz3: a Bb: b = ( 5 ) } _Names");
        String[] names = {"zz1", "zz2", "+", "zz3:Bb:"};
        for (int i = 0; i < 4; i++) {
            Check.due("name " + i, c.string(c.world.value(v, i)), names[i]);
            Check.due("made in order", c.world.value(v, i) == c.world.value(v, 0) + i, true);
        }
        Check.due("then the vector", v, c.world.value(v, 3) + 1);
        StringBuilder many = new StringBuilder("{ ");
        for (int i = 0; i < 24; i++) {
            many.append("n").append(i).append(". ");
        }
        gives(many + "} _Names _Size", 24);
        Check.sentence("LOOKS, to plain ones (others: type)");
        for (String none : new String[] {"3", "'a'", "[ ]", "(_Vector: 0 Fill: 0)", "([ ] _Spawn)", "(_Semaphore: 0)"}) {
            fails(none + " _Names", "type");
            fails(none + " _Kind: 'x'", "type");
            fails(none + " _Peek: 'x'", "type");
        }
        Check.sentence("_Kind: s: 0 constant, 1 assignable, 2 method, and 4 for a parent; name: no such slot");
        String o = "{ a = 1. b <- 2. m = ( 3 ). p* = nil. q* <- nil. k: x = ( 4 ) }";
        String[] slots = {"a", "b", "m", "p", "q", "k:"};
        int[] kinds = {0, 1, 2, 4, 5, 2};
        for (int i = 0; i < slots.length; i++) {
            gives(o + " _Kind: '" + slots[i] + "'", kinds[i]);
        }
        for (String none : new String[] {"", "b:", "k", "nowhere", "p*", "lobby", "parent"}) {
            fails(o + " _Kind: '" + none + "'", "name");
            fails(o + " _Peek: '" + none + "'", "name");
            fails(o + " _Take: '" + none + "'", "name");
        }
        fails("{ p* = lobby } _Kind: 'lobby'", "name");
        Check.sentence("_Peek: s: the value; type of a method");
        gives(o + " _Peek: 'a'", 1);
        gives(o + " _Peek: 'b'", 2);
        givesObject(o + " _Peek: 'q'", 0);
        fails(o + " _Peek: 'm'", "type");
        fails(o + " _Peek: 'k:'", "type");
    }

    private static String many(int from, int n) {
        StringBuilder all = new StringBuilder("{ ");
        for (int i = from; i < from + n; i++) {
            all.append("s").append(i).append(". ");
        }
        return all + "}";
    }

    /** The selectors of an object that lobby has. */
    private static String selectors(Check c, String name) {
        int o = (int) c.answer(name);
        StringBuilder all = new StringBuilder();
        for (int i = 0; i < c.world.object(o, 1); i++) {
            all.append(c.selector(o, i)).append(' ');
        }
        return all.toString();
    }

    private static void slots() {
        Check.sentence("_Slots: o: one with x: goes, if an assignable x comes, an assignable x, if x: comes; "
            + "then it comes in the place of one with its selector, else behind");
        Check c = new Check(300);
        c.run("self _Slots: { o = { a = 1. b: x = ( 2 ). c <- 3. d = 4 } }");
        c.run("o _Slots: { }");
        Check.due("none", selectors(c, "o"), "a b: c d ");
        c.run("o _Slots: { b = 5 }");
        Check.due("a constant b leaves b:", selectors(c, "o"), "a b: c d b ");
        c.run("o _Slots: { b <- 5 }");
        Check.due("an assignable b in its place, b: goes", selectors(c, "o"), "a c d b ");
        c.run("o _Slots: { d: x = ( 6 ) }");
        Check.due("d: leaves a constant d", selectors(c, "o"), "a c d b d: ");
        c.run("o _Slots: { c: x = ( 6 ). a <- 7 }");
        Check.due("an assignable c goes", selectors(c, "o"), "a d b d: c: ");
        c.run("o _Slots: { d = ( 8 ) }");
        Check.due("in its place", selectors(c, "o"), "a d b d: c: ");
        c.run("o _Slots: { c. d }");
        Check.due("c: and d: go", selectors(c, "o"), "a d b c ");
        c.run("o _Slots: { c: x = ( 9 ). c = 3 }");
        Check.due("c comes again", selectors(c, "o"), "a d b c: c ");
        c.gives("o _Slots: o", c.answer("o"));
        Check.due("itself", selectors(c, "o"), "a d b c: c ");
        Check.sentence("_Slots: size: more than 24 at the end: nothing changes");
        Check d = new Check(300);
        d.run("self _Slots: { o = " + many(0, 20) + " }");
        d.run("o _Slots: " + many(18, 6));
        Check.due("24", d.world.object((int) d.answer("o"), 1), 24);
        int kept = d.world.count(6);
        d.givesString("o _Slots: { s0 = 5. t = 6 } IfFail: [ | :r | r ]", "size");
        d.errs("o _Slots: { t = 6 }", 3, "_Slots:", 1);
        Check.due("24 still", d.world.object((int) d.answer("o"), 1), 24);
        Check.due("s0 as it was", d.world.slot((int) d.answer("o"), 0), 1);
        Check.due("nothing is kept", d.world.count(6), kept);
        d.run("o _Slots: { s3: x = ( 4 ) }");
        Check.due("one for one", d.world.object((int) d.answer("o"), 1), 24);
        Check.due("the last", d.selector((int) d.answer("o"), 23), "s3:");
        // More than 24 on the way, 24 at the end: s0: goes when an assignable s0 comes.
        d.run("o _Take: 's1'. o _Slots: { s0 = 1. s0: x = ( 2 ) }");
        Check.due("24", d.world.object((int) d.answer("o"), 1), 24);
        d.run("o _Slots: { t = 1. s0 <- 2 }");
        Check.due("24 at the end", d.world.object((int) d.answer("o"), 1), 24);
        Check.due("the last", d.selector((int) d.answer("o"), 23), "t");
        Check.due("the first", d.world.slot((int) d.answer("o"), 0), 1);
        d.run("self _Slots: { e = { } }. e _Slots: o");
        Check.due("24 into none", d.world.object((int) d.answer("e"), 1), 24);
    }

    private static void otherChanges() {
        Check.sentence("_Take: s: that slot goes; name");
        Check c = new Check(300);
        c.run("self _Slots: { o = { a. b. c } }");
        c.gives("o _Take: 'a'", c.answer("o"));
        Check.due("the first", selectors(c, "o"), "b c ");
        c.run("o _Take: 'c'");
        Check.due("the last", selectors(c, "o"), "b ");
        c.run("o _Take: 'b'");
        Check.due("all", selectors(c, "o"), "");
        fails("self _Slots: { o = { } }", "o _Take: 'b'", "name");
        Check.sentence("_Define: o: its slots become those of o. _Become: o: both exchange their slots. Answer: what it was sent to");
        c.gives("o _Define: " + many(0, 24), c.answer("o"));
        Check.due("24", c.world.object((int) c.answer("o"), 1), 24);
        c.gives("o _Define: o", c.answer("o"));
        Check.due("itself", c.world.object((int) c.answer("o"), 1), 24);
        c.run("self _Slots: { e = { } }");
        c.gives("o _Become: e", c.answer("o"));
        Check.due("none", c.world.object((int) c.answer("o"), 1), 0);
        Check.due("24", c.world.object((int) c.answer("e"), 1), 24);
        c.gives("e _Become: e", c.answer("e"));
        Check.due("itself", c.world.object((int) c.answer("e"), 1), 24);
        c.run("e _Define: { }");
        Check.due("none", c.world.object((int) c.answer("e"), 1), 0);
    }

    private static void kept() {
        Check.sentence("CHANGES: The latest 20 are kept to be undone");
        Check c = new Check(300);
        c.run("self _Slots: { o = { x <- 0 } }. 1 to: 19 Do: [ | :i | o _Define: ({ x <- 0 } x: i) ]");
        Check.due("20", c.world.count(6), 20);
        c.run("o _Define: ({ x <- 0 } x: 20)");
        Check.due("20 still", c.world.count(6), 20);
        int o = (int) c.answer("o");
        for (int k = 19; k >= 0; k--) {
            Check.due("undo", c.world.undo(), true);
            Check.due("as it was", c.world.value(o, 0), W + k);
            Check.due("kept", c.world.count(6), k);
        }
        Check.due("no more", c.world.undo(), false);
        Check.due("lobby's stays", c.answer("o"), o);
        c.run("o x: 5. o _Copy. o _Names");
        Check.due("no changes", c.world.count(6), 0);
        for (String change : new String[] {"o _Slots: { }", "o _Take: 'x'", "o _Define: { x <- 1 }", "o _Become: o"}) {
            int kept = c.world.count(6);
            c.run(change);
            Check.due(change, c.world.count(6), kept + 1);
        }
    }
}
