/** The boundary cases of letters, words, grammar and faults, and of promises 1 to 4, sentence by sentence. */
public final class EdgeTextTest {
    private static final String SIXTEEN = "abcdefghijklmnop";
    private static final String BLANKS = "\t\n\r ";
    private static final String SIGNS = "+-*/%<>=&~!@,?";

    public static void main(String[] arguments) {
        letters();
        notes();
        names();
        reserved();
        acts();
        numbers();
        strings();
        signs();
        emptyParts();
        tooManyWords();
        tooManyOpen();
        tooManyCells();
        tooManySlots();
        tooManyArguments();
        tooLongSelectors();
        cellsTwice();
        slotsTwice();
        argumentsAtWrongPlaces();
        unlike();
        code();
        firstFault();
        newObject();
        feed();
        tell();
        fault();
        Check.end("EdgeTextTest");
    }

    /** In a world of its own this text has this fault at this place. */
    private static void faults(String text, int number, int place) {
        new Check(100).faults(text, number, place);
    }

    private static void fine(String text) {
        faults(text, 0, -1);
    }

    /** The fault is where this part of the text stands last. */
    private static void faultsAtLast(String text, int number, String part) {
        faults(text, number, text.lastIndexOf(part));
    }

    /** A list of names x0, x1 and so on, each with this ahead of it and that behind it. */
    private static String list(int n, String ahead, String behind) {
        StringBuilder all = new StringBuilder();
        for (int i = 0; i < n; i++) {
            all.append(ahead).append("x").append(i).append(behind);
        }
        return all.toString();
    }

    private static void letters() {
        Check.sentence("A TEXT are bytes 9, 10, 13, 32 .. 126. BLANKS: 9, 10, 13, 32");
        for (int b = 0; b < 256; b++) {
            String text = "3 " + (char) b;
            boolean sign = SIGNS.indexOf(b) >= 0;
            if (BLANKS.indexOf(b) >= 0 || b >= 'a' && b <= 'z' || b == '.') {
                fine(text);
            } else {
                faults(text, 1, sign ? 3 : 2);
            }
        }
        for (char b : BLANKS.toCharArray()) {
            new Check(100).givesWhole(b + "3" + b + b + "+" + b + "4" + b, 7);
        }
        fine(BLANKS);
        fine("");
    }

    private static void notes() {
        Check.sentence("NOTES, from \" to the next \" (any bytes between)");
        fine("\"\"");
        fine("\"\"\"\"3");
        fine("3\"'\"");
        StringBuilder any = new StringBuilder("3 \"");
        for (int b = 0; b < 256; b++) {
            any.append(b == '"' ? "" : (char) b);
        }
        fine(any + "\"");
        new Check(100).givesWhole("3\"a\"+\"b\"\"c\"4", 7);
        faults("3 \"", 1, 2);
        faults("3 \"a\"\"", 1, 5);
        faults("\"3", 1, 0);
        faults("x\"\": 3", 1, 3);
        new Check(100).givesString("'\"a\"'", "\"a\"");
        new Check(100).givesString("'\"'", "\"");
    }

    private static void names() {
        Check.sentence("NAME: a letter a .. z, then letters, digits, _, in all at most 16");
        fine("| a | a");
        fine("| " + SIXTEEN + " | " + SIXTEEN);
        fine("| aZ9_ | aZ9_");
        fine("| a_______________ | 3");
        // As long as it can be: what is beyond 16 begins the next word.
        faults("| " + SIXTEEN + "q | 3", 1, 18);
        Check c = new Check(100);
        c.run("self _Slots: { " + SIXTEEN + " = 3 }. whole _Slots: { q = 4 }");
        c.givesWhole(SIXTEEN + "q", 4);
        faults("9x", 1, 0);
        faults("_x", 1, 0);
        faults("X", 1, 0);
        Check.sentence("KEY: such a NAME and : directly behind; MORE: likewise, but beginning with A .. Z");
        fine("a: 1");
        fine(SIXTEEN + ": 1");
        fine("a: 1 A: 2");
        fine("a: 1 A" + SIXTEEN.substring(1) + ": 2");
        faults("a : 1", 1, 2);
        faults("a: 1 A : 2", 1, 5);
        faults("a: 1 A" + SIXTEEN + ": 2", 1, 5);
        faults("a: 1 A", 1, 5);
        faults("a:", 1, 2);
        Check.sentence("TO: a NAME with . directly behind, and directly behind that a letter a .. z");
        fine("p.x");
        fine("p.x: 1");
        fine(SIXTEEN + ".x");
        fine("p. x");
        fine("p .x");
        fine("p.3");
        fine("p.");
        faults("p.X", 1, 2);
        faults("p._x", 1, 2);
        fine("p._Copy");
        faults("3 p.x", 1, 2);
        fine("p.{ }");
        fine("p.[ ]");
        faults("p.|", 1, 2);
        faults("p.x y.z", 1, 4);
        faults("p.y.z", 1, 2);
    }

    private static void reserved() {
        Check.sentence("self is a word by itself (self as KEY or TO is none), resend one only as a TO");
        new Check(100).gives("self", 3);
        faults("self: 3", 1, 0);
        faults("self.x", 1, 0);
        fine("self. x");
        fine("self .x");
        fine("selfx");
        fine("self_");
        fine("self9: 3");
        faults("| self | 3", 1, 2);
        faults("{ self }", 1, 2);
        faults("3 self", 1, 2);
        fine("resend.x");
        fine("resend.x: 3");
        faults("resend", 1, 0);
        faults("resend. x", 1, 0);
        faults("resend: 3", 1, 0);
        faults("resend.self", 1, 7);
        faults("resend.resend.x", 1, 7);
        fine("resendx");
        faults("{ resend = 3 }", 1, 2);
    }

    private static void acts() {
        Check.sentence("ACT: _, A .. Z, then letters, digits, _, in all at most 16; ACTKEY: an ACT and : directly behind");
        fine("_A");
        fine("_A: 3");
        fine("_Abcdefghijklmno");
        fine("_Abcdefghijklmno: 3");
        fine("_Abcdefghijklmnop");
        fine("_Abcdefghijklmnop: 3");
        faults("_AbcdefghijklmnoP", 1, 16);
        faults("_", 1, 0);
        faults("_a", 1, 0);
        faults("_9", 1, 0);
        faults("__A", 1, 0);
        faults("_A : 3", 1, 3);
        fine("_A_9z");
    }

    private static void numbers() {
        Check.sentence("NUMBER: digits, at most 2147483647, without a letter, digit or _ directly behind");
        new Check(100).givesWhole("0", 0);
        new Check(100).givesWhole("2147483647", Integer.MAX_VALUE);
        new Check(100).givesWhole("-2147483647", -Integer.MAX_VALUE);
        new Check(100).givesWhole("- 0", 0);
        new Check(100).givesWhole("0".repeat(100) + "2147483647", Integer.MAX_VALUE);
        faults("2147483648", 1, 0);
        faults("-2147483648", 1, 1);
        faults("4294967296", 1, 0);
        faults("9".repeat(100), 1, 0);
        faults("18446744073709551617", 1, 0);
        faults("3a", 1, 0);
        faults("3A", 1, 0);
        faults("3_", 1, 0);
        fine("3.4");
        fine("3.x");
        fine("3+4");
        faults("| a <- 2147483648 | a", 1, 7);
        new Check(100).givesWhole("| a <- 2147483647 | a", Integer.MAX_VALUE);
        new Check(100).givesWhole("| a <- - 2147483647 | a", -Integer.MAX_VALUE);
    }

    private static void strings() {
        Check.sentence("STRING: in ' .. ', in them bytes 32 .. 126 but ' and a backslash, or a backslash with n (10), ' or a backslash");
        StringBuilder low = new StringBuilder();
        StringBuilder high = new StringBuilder();
        for (char b = 32; b < 127; b++) {
            if (b != '\'' && b != '\\') {
                (b < 80 ? low : high).append(b);
            }
        }
        new Check(100).givesString("'" + low + "'", low.toString());
        new Check(100).givesString("'" + high + "'", high.toString());
        new Check(100).givesString("'\\n\\'\\\\'", "\n'\\");
        for (int b = 0; b < 256; b++) {
            if (b < 32 || b > 126) {
                faults("'" + (char) b + "'", 1, 0);
            }
            if (b != 'n' && b != '\'' && b != '\\') {
                faults("'\\" + (char) b + "'", 1, 0);
            }
        }
        faults("'", 1, 0);
        faults("'a", 1, 0);
        faults("'\\'", 1, 0);
        faults("'\\", 1, 0);
        faults("3 '''", 1, 2);
        Check.sentence("STRING: at most 60 bytes");
        new Check(100).givesString("''", "");
        new Check(100).givesString("'" + "a".repeat(60) + "'", "a".repeat(60));
        new Check(100).givesString("'" + "\\n".repeat(60) + "'", "\n".repeat(60));
        faults("'" + "a".repeat(61) + "'", 1, 0);
        faults("'" + "\\n".repeat(61) + "'", 1, 0);
        faults("3. '" + "a".repeat(60) + "\\\\'", 1, 3);
    }

    private static void signs() {
        Check.sentence("SIGN: one or more of + - * / % < > = & ~ ! @ , ?");
        fine("3 " + SIGNS + " 4");
        for (char sign : SIGNS.toCharArray()) {
            fine("3 " + sign + " 4");
            fine("3" + sign + sign + "4");
        }
        for (char none : "#$`;\\".toCharArray()) {
            faults("3 " + none + " 4", 1, 2);
        }
        faults("3 | 4", 1, 2);
        faults("3 +- 4 + 5", 4, 7);
        faults("3 + -", 1, 5);
        faults("3 --", 1, 4);
        faults("--3", 1, 0);
        faults("{ x *= 3 }", 1, 4);
        faults("{ x =- 3 }", 1, 4);
        faults("{ x <-- 3 }", 1, 4);
        faults("| a <-- 3 | a", 1, 4);
    }

    private static void emptyParts() {
        Check.sentence("body: ['|' cells '|'] code; cells and code may be left out");
        new Check(100).gives("", 0);
        new Check(100).gives("| |", 0);
        new Check(100).gives("||", 0);
        new Check(100).gives("| a. |", 0);
        new Check(100).gives("[ ] value", 0);
        new Check(100).gives("[ | | ] value", 0);
        faults("| . |", 1, 2);
        faults("| a.. |", 1, 4);
        faults("|", 1, 1);
        faults("| a", 1, 3);
        faults("| a. | | b | 3", 1, 7);
        faults(".", 1, 0);
        faults("3..", 1, 2);
        faults("^", 1, 1);
        faults("^.", 1, 1);
        faults("()", 1, 1);
        faults("[ | : | 3 ]", 1, 6);
        faults("[ | :a :b | 3 ]", 1, 7);
        Check.sentence("object: '{' [slot ('.' slot)* ['.']] '}'");
        fine("{ }");
        fine("{ x }");
        fine("{ x. }");
        faults("{ . }", 1, 2);
        faults("{ x.. }", 1, 4);
        faults("{ x", 1, 3);
        Check.sentence("method: '(' body ')', its code having a statement");
        faults("{ x = ( ) }", 1, 8);
        faults("{ x = ( | a | ) }", 1, 14);
        faults("{ + a = ( ) }", 1, 10);
        faults("{ k: a = ( | b | ) }", 1, 17);
        fine("{ x = ( 3 ) }");
        fine("{ x = ( 3. ) }");
        fine("{ x = ( ^ 3 ) }");
        Check.sentence("Behind NAME '=' a ( begins a method, behind NAME '*' '=' an e");
        faults("{ x = ( 3 ) + 4 }", 1, 12);
        fine("{ x* = ( 3 ) + 4 }");
        fine("{ x <- ( 3 ) + 4 }");
        faults("{ x* = ( | a | 3 ) }", 1, 9);
        faults("{ x* = ( 3. 4 ) }", 1, 10);
        Check.sentence("A MORE belongs to the nearest KEY or ACTKEY ahead of it that can have it");
        Check c = new Check(100);
        c.stops("a: 1 b: 2 C: 3", 1, "b:C:", Check.WHOLE + 1, 2);
        c.stops("a: (1 b: 2) C: 3", 1, "b:", Check.WHOLE + 1, 1);
        c.stops("a: [ b: 2 ] C: 3", 1, "a:C:", 3, 2);
        faults("C: 3", 1, 0);
        faults("(a: 1). C: 3", 1, 8);
        faults("3 C: 3", 1, 2);
    }

    private static void tooManyWords() {
        Check.sentence("ROOM: a 4001st word");
        Check c = new Check(100);
        c.faults("1.".repeat(2000), 0, -1);
        Check.due("words", c.world.count(7), 4000);
        faults("1.".repeat(2000) + "1", 2, 4000);
        faults("1.".repeat(2000) + " 1.1.1", 2, 4001);
        faults("1.".repeat(1999) + "1  \"note\" .1", 2, 4009);
        fine("1.".repeat(1999) + "1. \"note\" ");
    }

    private static void tooManyOpen() {
        Check.sentence("ROOM: a 13th that is open of ( [ { and KEY, ACTKEY of messages (up to the end of the message)");
        String twelve = "(".repeat(12);
        fine(twelve + "3" + ")".repeat(12));
        fine("[".repeat(12) + "]".repeat(12));
        fine("{x<-".repeat(12) + "3" + "}".repeat(12));
        fine("a: ".repeat(12) + "3");
        fine("_A: ".repeat(12) + "3");
        fine("3 a: ".repeat(12) + "3");
        fine("{x=(".repeat(6) + "3" + ")}".repeat(6));
        for (String more : new String[] {"(3)", "[]", "{}", "a: 3", "_A: 3"}) {
            faults(twelve + more + ")".repeat(12), 2, 12);
            fine("(".repeat(11) + more + ")".repeat(11));
        }
        faults(twelve + "3 a: 3" + ")".repeat(12), 2, 14);
        faults(twelve + "3 + (4)" + ")".repeat(12), 2, 16);
        faults(twelve + "p.a: 3" + ")".repeat(12), 2, 14);
        faults("a: ".repeat(13) + "3", 2, 36);
        faults("(".repeat(11) + "{ k: a = ( 3 ) }" + ")".repeat(11), 2, 20);
        fine("(".repeat(10) + "{ k: a = ( 3 ) }" + ")".repeat(10));
        fine("(3)." + twelve + "3" + ")".repeat(12));
        fine("a: 3. ".repeat(13) + "[ a: 3 ]. ".repeat(13) + "(a: 3). ".repeat(13));
        fine("a: (b: 1) C: ".repeat(6) + "(((((3)))))");
        fine("(".repeat(11) + "a: 1 B: 2 C: 3" + ")".repeat(11));
        fine("(".repeat(11) + "a: 1" + ")".repeat(11) + " b: " + "(".repeat(10) + "a: 1" + ")".repeat(10));
        faults("((((((((((((#", 1, 12);
        // Twelve objects with 24 slots each, and twelve messages with selectors of 60 bytes.
        StringBuilder objects = new StringBuilder("5");
        StringBuilder keys = new StringBuilder("6");
        for (int k = 0; k < 12; k++) {
            objects.insert(0, "{ " + list(23, "", ". ") + "y <- ").append(" }");
            keys.insert(0, "abcdefghijklmno: 1 Abcdefghijklmn: 2 Bbcdefghijklm: 3 Cbcdefghijklm: ");
        }
        new Check(100).givesWhole(objects + " y".repeat(12), 5);
        Check c = new Check(100);
        c.run("self _Slots: { abcdefghijklmno: a Abcdefghijklmn: b Bbcdefghijklm: c Cbcdefghijklm: d = ( d ) }");
        c.givesWhole(keys.toString(), 6);
    }

    private static void tooManyCells() {
        Check.sentence("ROOM: a 13th cell of a body (a method's arguments among them; at its NAME)");
        fine("| " + list(12, "", ". ") + " | 3");
        faultsAtLast("| " + list(13, "", ". ") + " | 3", 2, "x12");
        fine("[ | " + list(12, "", ". ") + " | 3 ]");
        faultsAtLast("[ | " + list(13, "", ". ") + " | 3 ]", 2, "x12");
        fine("[ | :a. :b. " + list(10, "", ". ") + " | 3 ]");
        faultsAtLast("[ | :a. :b. " + list(11, "", ". ") + " | 3 ]", 2, "x10");
        fine("{ k: a L: b = ( | " + list(10, "", ". ") + " | 3 ) }");
        faultsAtLast("{ k: a L: b = ( | " + list(11, "", ". ") + " | 3 ) }", 2, "x10");
        fine("{ + a = ( | " + list(11, "", ". ") + " | 3 ) }");
        faultsAtLast("{ + a = ( | " + list(12, "", ". ") + " | 3 ) }", 2, "x11");
        fine("{ m = ( | " + list(12, "", ". ") + " | 3 ) }");
        faultsAtLast("{ m = ( | " + list(13, "", ". ") + " | 3 ) }", 2, "x12");
        fine("| " + list(12, "", ". ") + " | [ | " + list(12, "", ". ") + " | 3 ]");
        faultsAtLast("| " + list(12, "", ". ") + "x3 | 3", 2, "x3");
    }

    private static void tooManySlots() {
        Check.sentence("ROOM: a 25th slot of an object (at its first word)");
        Check c = new Check(100);
        c.run("self _Slots: { o = { " + list(24, "", ". ") + "} }");
        Check.due("slots", c.world.object((int) c.answer("o"), 1), 24);
        for (String more : new String[] {"y", "y = 3", "y <- 4", "y* = 5", "y = ( 6 )", "+ a = ( 7 )", "k: a = ( 8 )", "x3 = 9"}) {
            String text = "{ " + list(24, "", " = 1. ") + more + " }";
            faults(text, 2, text.indexOf(". " + more + " }") + 2);
        }
        faultsAtLast("{ " + list(24, "", ". ") + "] }", 1, "]");
        fine("{ " + list(23, "", ". ") + "y = { " + list(24, "", ". ") + "} }");
    }

    private static void tooManyArguments() {
        Check.sentence("ROOM: a 9th argument of a message or method (at the MORE), of a block (at the NAME)");
        String eight = "a: 1 B: 1 C: 1 D: 1 E: 1 F: 1 G: 1 H: 1";
        fine(eight);
        fine("3 " + eight);
        fine("p." + eight);
        fine("_" + eight.toUpperCase());
        faultsAtLast(eight + " I: 1", 2, "I:");
        faultsAtLast("3 " + eight + " I: 1", 2, "I:");
        faultsAtLast("p." + eight + " I: 1", 2, "I:");
        faultsAtLast("_" + eight.toUpperCase() + " I: 1", 2, "I:");
        // It belongs to the nearest one, which is full.
        faultsAtLast("z: " + eight + " I: 1", 2, "I:");
        fine("z: (" + eight + ") I: 1");
        String method = "a: a B: b C: c D: d E: e F: f G: g H: h";
        fine("{ " + method + " = ( 3 ) }");
        faultsAtLast("{ " + method + " I: i = ( 3 ) }", 2, "I:");
        fine("[ | " + list(8, ":", ". ") + " | 3 ]");
        faultsAtLast("[ | " + list(9, ":", ". ") + " | 3 ]", 2, "x8");
        fine("[ | " + list(8, ":", ". ") + "a. b. c. d | 3 ]");
        faultsAtLast("[ | " + list(8, ":", ". ") + ":x2 | 3 ]", 2, "x2");
    }

    private static void tooLongSelectors() {
        Check.sentence("ROOM: the word by which a selector would have more than 60 bytes");
        String keys = "a" + SIXTEEN.substring(1) + ": 1 B" + SIXTEEN.substring(1) + ": 1 C" + SIXTEEN.substring(1) + ": 1 ";
        fine(keys + "Defghijk: 1");
        faultsAtLast(keys + "Defghijkl: 1", 2, "Defghijkl");
        faultsAtLast(keys + "D: 1 E: 1 F: 1 G: 1 Hi: 1", 2, "Hi:");
        fine(keys + "D: 1 E: 1 F: 1 G: 1");
        faultsAtLast("3 " + keys + "Defghijkl: 1", 2, "Defghijkl");
        faultsAtLast("p." + keys + "Defghijkl: 1", 2, "Defghijkl");
        faultsAtLast("_" + keys.substring(1).replaceFirst("b", "B") + "Defghijkl: 1", 2, "Defghijkl");
        String names = keys.replace(": 1", ": x");
        names = names.replaceFirst(": x", ": x0").replaceFirst(": x ", ": x1 ").replaceFirst(": x ", ": x2 ");
        fine("{ " + names + "Defghijk: x3 = ( 3 ) }");
        faultsAtLast("{ " + names + "Defghijkl: x3 = ( 3 ) }", 2, "Defghijkl");
        fine("3 " + "+".repeat(60) + " 4");
        faults("3 " + "+".repeat(61) + " 4", 2, 2);
        fine("{ " + "+".repeat(60) + " a = ( 3 ) }");
        faults("{ " + "+".repeat(61) + " a = ( 3 ) }", 2, 2);
        // Where a sign of any length can't stand it is no selector.
        faults("{ x " + "=".repeat(61) + " 3 }", 1, 4);
        faults("-".repeat(61) + " 3", 1, 0);
    }

    private static void cellsTwice() {
        Check.sentence("TWICE: a cell that is told in its body already (at its NAME)");
        faults("| a. a | 3", 3, 5);
        faults("| a <- 3. b. a <- 4 | 3", 3, 13);
        faults("[ | :a. :a | 3 ]", 3, 9);
        faults("[ | :a. a | 3 ]", 3, 8);
        faults("{ k: a L: a = ( 3 ) }", 3, 10);
        faults("{ k: a = ( | a | 3 ) }", 3, 13);
        faults("{ + a = ( | b. a | 3 ) }", 3, 15);
        fine("| a | [ | a | [ | :a | a ] ]");
        fine("{ k: a = ( [ | :a | a ] ). l: a = ( a ) }");
        fine("| a | { k: a = ( a ). a = 3 }");
    }

    private static void slotsTwice() {
        Check.sentence("TWICE: a slot with a selector that one of its object has already, of an assignable x also x: "
            + "(at the word behind its NAMEs and *: =, <-, . or })");
        faults("{ x = 1. x = 2 }", 3, 11);
        faults("{ x = 1. x <- 2 }", 3, 11);
        faults("{ x = 1. x* = 2 }", 3, 12);
        faults("{ x = 1. x. y }", 3, 10);
        faults("{ x = 1. x }", 3, 11);
        faults("{ x = 1. x*}", 3, 11);
        faults("{ x = 1. x = ( 2 ) }", 3, 11);
        faults("{ x = ( 1 ). x }", 3, 15);
        faults("{ + a = ( 1 ). + b = ( 2 ) }", 3, 19);
        faults("{ k: a = ( 1 ). k: b = ( 2 ) }", 3, 21);
        faults("{ k: a L: b = ( 1 ). k: a L: b = ( 2 ) }", 3, 31);
        faults("{ x <- 1. x: a = ( 2 ) }", 3, 15);
        faults("{ x. x: a = ( 2 ) }", 3, 10);
        faults("{ x: a = ( 1 ). x <- 2 }", 3, 18);
        faults("{ x: a = ( 1 ). x* <- 2 }", 3, 19);
        faults("{ x: a = ( 1 ). x }", 3, 18);
        fine("{ x: a = ( 1 ). x = 2 }");
        fine("{ x = 2. x: a = ( 1 ) }");
        fine("{ x = ( 2 ). x: a = ( 1 ) }");
        fine("{ x <- 2. x: a Y: b = ( 1 ) }");
        fine("{ x <- 2. y = { x <- 3 } }");
        faults("{ x = 1. x foo }", 1, 11);
    }

    private static void argumentsAtWrongPlaces() {
        Check.sentence("TWICE: an argument behind a cell that is none, or in a text, or told in a method's | | (at the :)");
        faults("[ | a. :b | 3 ]", 3, 7);
        faults("[ | :a. b. :c | 3 ]", 3, 11);
        faults("[ | a <- 3. :a | 3 ]", 3, 12);
        faults("| :a | 3", 3, 2);
        faults("| a. :a | 3", 3, 5);
        faults("{ m = ( | :a | 3 ) }", 3, 10);
        faults("{ k: a = ( | :b | 3 ) }", 3, 13);
        faults("{ + a = ( | b. :c | 3 ) }", 3, 15);
        fine("{ m = ( [ | :a | 3 ] ) }");
    }

    private static void unlike() {
        Check.sentence("UNLIKE: a SIGN that is not the first one of its row b");
        faults("1 + 2 - 3", 4, 6);
        faults("1 + 2 + 3 ++ 4", 4, 10);
        faults("1 + 2 -3", 4, 6);
        faults("1 + 2 - ", 4, 6);
        fine("1 + 2 + 3 + 4");
        fine("1 - -2 - -3");
        fine("1 + (2 - 3) + 4");
        fine("1 + 2 a: 3 - 4 B: 5 * 6");
        fine("1 + 2. 3 - 4");
        fine("1 + [ 2 - 3 ] + { x = 4 * 5. y <- 6 / 7 }");
        faults("a: 1 + 2 - 3", 4, 9);
    }

    private static void code() {
        Check.sentence("CODE: at the end, when the text's words, with those of all texts without a fault ahead of it, are more than 8000");
        Check c = new Check(100);
        c.faults("1.".repeat(2000), 0, -1);
        c.faults("1 1" + "1.".repeat(20), 1, 2);
        c.faults("1.".repeat(1998), 0, -1);
        Check.due("words", c.world.count(7), 7996);
        c.faults("1.1.1 ", 5, 6);
        Check.due("a text with a fault is not counted", c.world.count(7), 7996);
        c.faults("1.1.(", 1, 5);
        c.faults("1.1.", 0, -1);
        Check.due("words", c.world.count(7), 8000);
        c.faults("", 0, -1);
        c.faults(" \"\" ", 0, -1);
        c.faults("1", 5, 1);
        c.faults("1 \"note\" ", 5, 9);
        Check.due("words", c.world.count(7), 8000);
    }

    private static void firstFault() {
        Check.sentence("Each with a place (the first byte of its word, from 0 on; of the end, how many bytes the text has)");
        faults("  abc  #", 1, 7);
        faults("(3  \"note\"  ", 1, 12);
        faults("(", 1, 1);
        faults("3 ( ", 1, 2);
        Check.sentence("The first one from the left (at one word the lower number)");
        faults("{ x. x } )", 3, 7);
        faults("1 + 2 - #", 4, 6);
        faults("# 1 + 2 - 3", 1, 0);
        faults("1 + 2 " + "-".repeat(61) + " 3", 2, 6);
        faults("| a. a. #", 3, 5);
        faults("1.".repeat(1998) + "-1+2-3", 2, 4000);
        faults("1.".repeat(1998) + "+1+2-3", 1, 3996);
        faults("1.".repeat(2000) + ")", 1, 4000);
        faults("1.".repeat(2000) + "#", 1, 4000);
        faults("1.".repeat(1999) + "1+", 1, 4000);
        Check.sentence("A text behind one with a fault is read as any other");
        Check c = new Check(100);
        for (int k = 0; k < 40; k++) {
            Check.due("with a fault", c.tell("{ k: a B: b 3"), -1);
        }
        c.givesWhole("| a <- 3 | { k: a B: b = ( a ) } k: 4 B: [ [ a ] value ] value", 4);
    }

    /** How many objects a world holds: one text fills it up with a chain that lobby has. */
    private static int most(int objects) {
        Check c = new Check(objects);
        c.run("self _Slots: { k <- 0. c = { n <- 0 } }. [ true ] whileTrue: [ k: (c _Copy n: k) ]");
        return c.world.count(0);
    }

    private static void newObject() {
        Check.sentence("SlotWorld: At most N objects live: 100 .. 600, else 300");
        int[][] sizes = {{100, 100}, {101, 101}, {99, 300}, {0, 300}, {-1, 300}, {-100, 300}, {599, 599}, {600, 600}, {601, 300},
            {Integer.MAX_VALUE, 300}, {Integer.MIN_VALUE, 300}};
        for (int[] size : sizes) {
            Check.due("objects of " + size[0], most(size[0]), size[1]);
        }
        Check.sentence("All that nothing reaches goes (so do its numbers), no change is kept, and all counts are 0 (words, too)");
        SlotWorld w = new SlotWorld(100);
        Check.due("objects 0 to 9 alone", w.count(0), 10);
        for (int what = 1; what < 12; what++) {
            Check.due("count " + what, w.count(what), 0);
        }
        Check.due("no fault", w.fault(0), 0);
        Check.due("no change", w.undo(), false);
        Check.due("nothing went out", w.fetch(), 0);
        Check.due("nothing was written", w.octets(0), 0);
        Check.due("nothing was found", w.found(0, 0), -1);
        Check.due("no sender", w.sender(0, 0), -1);
        Check.due("nothing goes", w.sweep(), 0);
        Check.due("the lowest number that is free", w.tell(0), 10);
    }

    private static void feed() {
        Check.sentence("feed: 20 bytes come behind the tape, the highest of a first: true; false if more than 8000 would be there");
        SlotWorld w = new SlotWorld(100);
        for (int i = 0; i < 399; i++) {
            Check.due("feed", w.feed(0x20202020, 0x20202020, 0x20202020, 0x20202020, 0x20202020), true);
        }
        Check.due("up to 8000", w.feed(0x312D2020, 0x20202020, 0x20202020, 0x20202020, 0x20202034), true);
        Check.due("bytes", w.count(1), 8000);
        Check.due("more than 8000", w.feed(0x20202020, 0x20202020, 0x20202020, 0x20202020, 0x20202039), false);
        Check.due("bytes stay", w.count(1), 8000);
        int p = w.tell(8000);
        Check.due("all are told", w.fault(0), 0);
        w.turn(10);
        Check.due("the last byte is the lowest of e", w.answer(p, 0), Check.WHOLE - 3);
        Check.due("room again", w.feed(-1, -1, -1, -1, -1), true);
        Check.due("bytes", w.count(1), 20);
    }

    private static void tell() {
        Check.sentence("tell: -2 (refused) if n is not 0 .. the bytes that there are");
        Check c = new Check(100);
        Check.due("no bytes", c.world.tell(1), -2);
        Check.due("none of none", c.world.tell(0), 10);
        c.feed("3 + 4 is 20 bytes ..");
        for (int n : new int[] {-1, 21, Integer.MAX_VALUE, Integer.MIN_VALUE}) {
            Check.due("tell " + n, c.world.tell(n), -2);
            Check.due("the tape stays", c.world.count(1), 20);
        }
        Check.sentence("tell: the first n bytes of the tape, which is empty then");
        Check.due("five of 20", c.world.tell(5), 11);
        Check.due("empty", c.world.count(1), 0);
        c.feed("(");
        Check.due("with a fault", c.world.tell(1), -1);
        Check.due("empty, too", c.world.count(1), 0);
        c.feed("3");
        Check.due("none of 20", c.world.tell(0) > 0, true);
        Check.due("empty, too", c.world.count(1), 0);
        Check.sentence("tell: -2 (refused) if 12 processes are not ended");
        Check d = new Check(100);
        for (int i = 0; i < 12; i++) {
            Check.due("process " + i, d.tell("3"), 10 + i);
            Check.due("the last of the row", d.world.process(10 + i, 3), i);
        }
        d.feed("(");
        Check.due("a 13th", d.world.tell(1), -2);
        Check.due("refused: the tape stays", d.world.count(1), 20);
        Check.due("refused: no fault", d.world.fault(0), 0);
        Check.due("refused: the words stay", d.world.count(7), 12);
        d.world.turn(1);
        Check.due("all have ended", d.world.tell(1), -1);
        Check.sentence("tell: -3, the text being read, without room for a process");
        Check full = Check.almostFull("3", 0);
        int words = full.world.count(7);
        int sweeps = full.world.count(10);
        Check.due("with a fault", full.tell("3 + "), -1);
        Check.due("no sweep", full.world.count(10), sweeps);
        Check.due("no room", full.tell("3 + 4"), -3);
        Check.due("a sweep ahead of it", full.world.count(10), sweeps + 1);
        Check.due("no fault", full.world.fault(0), 0);
        Check.due("its words are counted", full.world.count(7), words + 3);
        Check.due("the tape is empty", full.world.count(1), 0);
        Check.due("no process", full.world.count(4), 0);
    }

    private static void fault() {
        Check.sentence("fault: the latest tell()'s fault (what 0; 0 without), its place (1; -1 without); -1 for another what");
        Check c = new Check(100);
        Check.due("ahead of all", c.world.fault(0), 0);
        Check.due("ahead of all", c.world.fault(1), -1);
        c.tell("3 )");
        Check.due("fault", c.world.fault(0), 1);
        Check.due("place", c.world.fault(1), 2);
        Check.due("refused", c.world.tell(99), -2);
        Check.due("fault stays", c.world.fault(0), 1);
        Check.due("place stays", c.world.fault(1), 2);
        for (int what : new int[] {-1, 2, Integer.MAX_VALUE, Integer.MIN_VALUE}) {
            Check.due("another what", c.world.fault(what), -1);
        }
        c.tell("3");
        Check.due("without", c.world.fault(0), 0);
        Check.due("without", c.world.fault(1), -1);
    }
}
