/** The acts of the house: what they answer, and the reasons for which they fail. */
public final class ActTest {
    private static final long W = Check.WHOLE;
    private static final String LONG = "'" + "a".repeat(60) + "'";

    public static void main(String[] arguments) {
        wholes();
        rows();
        strings();
        performing();
        looks();
        changes();
        printing();
        failing();
        Check.end("ActTest");
    }

    /** An act fails for this reason: with IfFail: that is given to the block, without it is an error. */
    private static void fails(Check c, String act, String reason) {
        String behind = act.endsWith(" ") ? "IfFail: " : " IfFail: ";
        c.givesString(act.stripTrailing() + behind + "[ | :r | r ]", reason);
        String[] reasons = "type overflow divisor index size name full count digits act".split(" ");
        int p = c.run(act.stripTrailing());
        Check.due(act + ": error", c.world.process(p, 4), 3);
        for (int i = 0; i < reasons.length; i++) {
            if (reasons[i].equals(reason)) {
                Check.due(act + ": reason", c.world.process(p, 5), i + 1);
            }
        }
        c.world.mend(p, 0);
        c.run("");
    }

    private static void wholes() {
        Check c = new Check(300);
        c.givesWhole("2147483646 _Add: 1", 2147483647);
        fails(c, "2147483647 _Add: 1", "overflow");
        c.givesWhole("-2147483647 _Sub: 1", -2147483648L);
        fails(c, "-2147483647 _Sub: 2", "overflow");
        c.givesWhole("65536 _Mul: -32768", -2147483648L);
        fails(c, "65536 _Mul: 32768", "overflow");
        c.givesWhole("-7 _Div: 2", -3);
        c.givesWhole("-7 _Mod: 2", -1);
        c.givesWhole("7 _Mod: -2", 1);
        fails(c, "7 _Div: 0", "divisor");
        fails(c, "7 _Mod: 0", "divisor");
        fails(c, "(-2147483647 - 1) _Div: -1", "overflow");
        c.givesWhole("(-2147483647 - 1) _Mod: -1", 0);
        c.givesWhole("12 _And: 10", 8);
        c.givesWhole("12 _Or: 10", 14);
        c.givesWhole("12 _Xor: -1", -13);
        c.givesWhole("1 _Shift: 30", 1073741824);
        fails(c, "1 _Shift: 31", "overflow");
        c.givesWhole("-1 _Shift: 31", -2147483648L);
        c.givesWhole("0 _Shift: 31", 0);
        c.givesWhole("-5 _Shift: -1", -3);
        c.givesWhole("-5 _Shift: -31", -1);
        fails(c, "1 _Shift: 32", "index");
        fails(c, "1 _Shift: -32", "index");
        c.gives("-1 _Less: 0", 1);
        c.gives("0 _Less: 0", 2);
        fails(c, "nil _Add: 1", "type");
        fails(c, "1 _Add: nil", "type");
        fails(c, "1 _Less: 'a'", "type");
        c.gives("1 _Same: 1", 1);
        c.gives("1 _Same: nil", 2);
        c.gives("'ab' _Same: ('a' _Join: 'b')", 1);
        c.gives("{ } _Same: { }", 2);
    }

    private static void rows() {
        Check c = new Check(300);
        c.givesWhole("(_Vector: 60 Fill: 4) _Size", 60);
        c.givesWhole("(_Vector: 0 Fill: 4) _Size", 0);
        fails(c, "_Vector: 61 Fill: 4", "size");
        fails(c, "_Vector: -1 Fill: 4", "size");
        fails(c, "_Vector: nil Fill: 4", "type");
        c.givesWhole("(_Vector: 2 Fill: 4) _At: 1", 4);
        fails(c, "(_Vector: 2 Fill: 4) _At: 2", "index");
        fails(c, "(_Vector: 2 Fill: 4) _At: -1", "index");
        fails(c, "(_Vector: 2 Fill: 4) _At: nil", "type");
        c.givesWhole("((_Vector: 2 Fill: 4) _At: 1 Put: 9) _At: 1", 9);
        fails(c, "(_Vector: 2 Fill: 4) _At: 2 Put: 9", "index");
        fails(c, "'ab' _At: 0 Put: 9", "type");
        fails(c, "nil _Size ", "type");
        fails(c, "3 _At: 0", "type");
        c.givesWhole("'abc' _At: 2", 99);
        fails(c, "'abc' _At: 3", "index");
        c.givesWhole("| a. b | a: (_Vector: 2 Fill: 4). b: a _Copy. a _At: 0 Put: 7. b _At: 0", 4);
        c.givesWhole("| a. b | a: { x <- 4 }. b: a _Copy. a x: 7. b x", 4);
        fails(c, "'abc' _Copy ", "type");
        fails(c, "3 _Copy ", "type");
        fails(c, "[ ] _Copy ", "type");
    }

    private static void strings() {
        Check c = new Check(300);
        c.givesString("'ab' _Join: ''", "ab");
        fails(c, LONG + " _Join: 'b'", "size");
        fails(c, "'a' _Join: 3", "type");
        fails(c, "3 _Join: 'a'", "type");
        c.givesString("-120 _Text", "-120");
        c.givesString("0 _Text", "0");
        c.givesString("10 _Text", "10");
        c.givesString("-1009 _Text", "-1009");
        c.givesString("(-2147483647 - 1) _Text", "-2147483648");
        c.givesString("'q' _Text", "q");
        fails(c, "nil _Text ", "type");
        c.givesWhole("'-00012' _Whole", -12);
        c.givesWhole("'1090' _Whole", 1090);
        c.givesWhole("'2147483647' _Whole", 2147483647);
        c.givesWhole("'-2147483648' _Whole", -2147483648L);
        for (String digits : new String[] {"", "-", "2147483648", "-2147483649", "+1", "1 ", "99999999999999999999", "--1", "1-"}) {
            fails(c, "'" + digits + "' _Whole ", "digits");
        }
        fails(c, "3 _Whole ", "type");
        c.givesString("(_Vector: 3 Fill: 65) _Bytes", "AAA");
        c.givesString("(_Vector: 1 Fill: 10) _Bytes", "\n");
        c.givesString("(_Vector: 0 Fill: 0) _Bytes", "");
        fails(c, "(_Vector: 1 Fill: 127) _Bytes ", "index");
        fails(c, "(_Vector: 1 Fill: 31) _Bytes ", "index");
        fails(c, "((_Vector: 2 Fill: 31) _At: 1 Put: nil) _Bytes ", "type");
        fails(c, "'a' _Bytes ", "type");
        c.gives("'ab' _Same: 'ab'", 1);
    }

    private static void performing() {
        Check c = new Check(300);
        c.givesWhole("3 _Perform: '+' With: (_Vector: 1 Fill: 4)", 7);
        c.givesWhole("[ 5 ] _Perform: 'value' With: (_Vector: 0 Fill: 4)", 5);
        c.givesWhole("({ x <- 1 } _Perform: 'x:' With: (_Vector: 1 Fill: 4)) x", 4);
        int p = c.run("3 _Perform: '+' With: (_Vector: 1 Fill: 4)");
        Check.due("what it passes on is no unit", c.world.process(p, 1), 3);
        c.stops("3 _Perform: 'zork:Mork:' With: (_Vector: 2 Fill: 4)", 1, "zork:Mork:", W + 3, 2);
        fails(c, "3 _Perform: 4 With: (_Vector: 1 Fill: 4)", "type");
        fails(c, "3 _Perform: '+' With: 4", "type");
        fails(c, "3 _Perform: '+' With: (_Vector: 2 Fill: 4)", "count");
        fails(c, "3 _Perform: 'foo' With: (_Vector: 1 Fill: 4)", "count");
        for (String name : new String[] {"", "_Add:", "A", "a:b:", "a:B", "3", "a b", "self", "resend", "self:", "abcdefghijklmnopq",
            "a:B:C:D:E:F:G:H:I:", "a+", "+a", ".", "a:Bcdefghijklmnopqr:"}) {
            fails(c, "3 _Perform: '" + name + "' With: (_Vector: 0 Fill: 4)", "name");
        }
        c.run("self _Slots: { u = { unknown: s With: v = ( s ) } }");
        c.givesString("u _Perform: 'zork:Mork:' With: (_Vector: 2 Fill: 4)", "zork:Mork:");
        c.givesString("u _Perform: 'a:A:Z:' With: (_Vector: 3 Fill: 4)", "a:A:Z:");
        c.givesString("u _Perform: 'a:B:C:D:E:F:G:H:' With: (_Vector: 8 Fill: 4)", "a:B:C:D:E:F:G:H:");
    }

    private static void looks() {
        Check c = new Check(300);
        c.run("self _Slots: { o = { a* = lobby. b = 3. c <- 4. d* <- lobby. e = ( 5 ). f: x = ( 6 ) } }");
        int v = (int) c.answer("o _Names");
        String[] names = {"a", "b", "c", "d", "e", "f:"};
        long[] kinds = {4, 0, 1, 5, 2, 2};
        for (int i = 0; i < names.length; i++) {
            Check.due("name " + i, c.string(c.world.value(v, i)), names[i]);
            c.givesWhole("o _Kind: '" + names[i] + "'", kinds[i]);
        }
        c.givesWhole("o _Peek: 'c'", 4);
        c.gives("o _Peek: 'd'", 3);
        fails(c, "o _Peek: 'e'", "type");
        fails(c, "o _Peek: 'g'", "name");
        fails(c, "o _Peek: 'c:'", "name");
        fails(c, "o _Kind: 'zork'", "name");
        fails(c, "o _Kind: 3", "type");
        fails(c, "'o' _Kind: 'a'", "type");
        fails(c, "3 _Names ", "type");
        c.givesWhole("{ } _Names _Size", 0);
        c.givesWhole("1 + ({ a. b } _Names _Size)", 3);
    }

    private static void changes() {
        Check c = new Check(300);
        c.run("self _Slots: { o = { a = 1. b <- 2. c: x = ( 3 ) } }");
        c.gives("o _Slots: { b = 5. d = 6 }", c.answer("o"));
        int o = (int) c.answer("o");
        Check.due("slots", c.world.object(o, 1), 4);
        Check.due("in its place", c.selector(o, 1), "b");
        Check.due("its kind", c.world.slot(o, 1), 0);
        c.run("o _Slots: { c <- 7. d: x = ( 8 ) }");
        Check.due("c: went, d stays", c.world.object(o, 1), 5);
        Check.due("a", c.selector(o, 0), "a");
        Check.due("b", c.selector(o, 1), "b");
        Check.due("d", c.selector(o, 2), "d");
        Check.due("c", c.selector(o, 3), "c");
        Check.due("d:", c.selector(o, 4), "d:");
        c.run("o _Slots: { c: x = ( 8 ) }");
        Check.due("the assignable c went", c.selector(o, 3), "d:");
        Check.due("c: is last", c.selector(o, 4), "c:");
        c.run("o _Slots: { e <- 'last' }. o _Take: 'b'");
        Check.due("b went", c.selector(o, 1), "d");
        Check.due("d stays as it is", c.world.value(o, 1), W + 6);
        Check.due("d: stays as it is", c.world.slot(o, 2), 2);
        Check.due("e stays as it is", c.world.slot(o, 4), 1);
        Check.due("e stays as it is", c.string(c.world.value(o, 4)), "last");
        c.world.undo();
        c.world.undo();
        c.run("o _Take: 'd:'");
        Check.due("d: went", c.world.object(o, 1), 4);
        fails(c, "o _Take: 'd:'", "name");
        fails(c, "o _Take: 3", "type");
        fails(c, "3 _Take: 'd:'", "type");
        fails(c, "o _Slots: 3", "type");
        fails(c, "3 _Slots: o", "type");
        fails(c, "o _Define: 'a'", "type");
        fails(c, "o _Become: [ ]", "type");
        c.run("o _Define: { z = 9 }");
        Check.due("defined", c.world.object(o, 1), 1);
        c.run("self _Slots: { q = { y = 1. x = 2 } }. o _Become: q");
        Check.due("became", c.selector(o, 1), "x");
        Check.due("exchanged", c.selector((int) c.answer("q"), 0), "z");
        StringBuilder many = new StringBuilder();
        for (int i = 0; i < 24; i++) {
            many.append("z").append(i).append(". ");
        }
        c.run("o _Define: { " + many + " }");
        Check.due("24 slots", c.world.object(o, 1), 24);
        int kept = c.world.count(6);
        fails(c, "o _Slots: { z25 = 1 }", "size");
        Check.due("nothing changes", c.world.object(o, 1), 24);
        Check.due("nothing is kept", c.world.count(6), kept);
        c.run("o _Slots: { z3 = 1. z3: n = ( 2 ) }");
        Check.due("no more than 24", c.world.object(o, 1), 24);
        c.run("o _Slots: { z0: n = ( 3 ) }");
        Check.due("the first went", c.selector(o, 0), "z1");
        Check.due("the setter is last", c.selector(o, 23), "z0:");
        c.run("o _Slots: { z0 <- 4 }");
        Check.due("and the other way", c.selector(o, 23), "z0");
        c.run("o _Slots: o");
        Check.due("itself", c.world.object(o, 1), 24);
    }

    private static void printing() {
        Check c = new Check(300);
        c.givesWhole("-12 _Print", -12);
        c.givesString("'ab\\n' _Print", "ab\n");
        Check.due("letters", c.fetched(), "-12ab\n");
        fails(c, "nil _Print ", "type");
        c.run("1 to: 99 Do: [ | :i | '0123456789012345678901234567890123456789' _Print ]");
        Check.due("wait", c.world.count(2), 3960);
        c.run("'" + "b".repeat(60) + "' _Print");
        Check.due("at most", c.world.count(2), 4000);
        String all = c.fetched();
        Check.due("what is beyond is lost", all.substring(3950), "0123456789" + "b".repeat(40));
    }

    private static void failing() {
        Check c = new Check(300);
        fails(c, "3 _Zork ", "act");
        fails(c, "3 _Zork: 4", "act");
        fails(c, "3 _Add: 4 Sub: 5", "act");
        c.givesString("3 _Size: 4 IfFail: [ | :r | r ]", "act");
        c.givesString("3 _AddIfFail: [ | :r | r ]", "act");
        fails(c, "[ | :a | a ] _Spawn ", "count");
        fails(c, "3 _Spawn ", "type");
        fails(c, "3 _Value ", "type");
        fails(c, "3 _Wait ", "type");
        fails(c, "3 _Signal ", "type");
        fails(c, "_Semaphore: 1001", "index");
        fails(c, "_Semaphore: -1", "index");
        fails(c, "_Semaphore: nil", "type");
        fails(c, "(_Semaphore: 1000) _Signal ", "overflow");
        c.givesWhole("1 _Add: nil IfFail: [ | :r | r size ]", 4);
        c.givesWhole("1 _Add: nil IfFail: { value: r = ( 6 ) }", 6);
        c.givesWhole("1 _Add: 2 IfFail: nil", 3);
        c.givesWhole("1 + ('a' _Add: 1 IfFail: [ | :r | 5 ])", 6);
        c.givesWhole("1 + (3 _Perform: '+' With: (_Vector: 1 Fill: 4))", 8);
        int p = c.run("1 _Add: nil IfFail: [ | :r | r ]");
        Check.due("a reason is no unit", c.world.process(p, 1), 2);
    }
}
