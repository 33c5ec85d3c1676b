/** A world under test: texts are fed and told as strings, answers are held against what is due. */
final class Check {
    static final long WHOLE = 1L << 40;
    private static int wrong = 0;
    private static int done = 0;
    private static int sentences = 0;
    private static String sentence = "";
    final SlotWorld world;

    Check(int objects) {
        world = new SlotWorld(objects);
    }

    /** The answers that follow are what this sentence of the document asks for. */
    static void sentence(String told) {
        sentence = told + ": ";
        sentences++;
    }

    static void due(String what, long got, long want) {
        done++;
        if (got != want) {
            wrong++;
            System.out.println(sentence + brief(what) + " answered " + got + ", due is " + want);
        }
    }

    static void due(String what, String got, String want) {
        done++;
        if (!got.equals(want)) {
            wrong++;
            System.out.println(sentence + brief(what) + " answered <" + got + ">, due is <" + want + ">");
        }
    }

    private static String brief(String what) {
        return what.length() < 200 ? what : what.substring(0, 90) + " .. " + what.substring(what.length() - 90);
    }

    static void due(String what, boolean got, boolean want) {
        due(what, got ? 1 : 0, want ? 1 : 0);
    }

    static void end(String name) {
        String told = sentences == 0 ? "" : sentences + " sentences, ";
        System.out.println(name + ": " + told + (done - wrong) + " answers as due, " + wrong + " not");
        if (wrong != 0) {
            System.exit(1);
        }
    }

    /** A world of 100 objects that is full but for so many: what takes the room is held. */
    static Check almostFull(String ahead, int room) {
        Check c = new Check(100);
        c.run(ahead);
        c.world.sweep();
        int chain = 100 - 20 - room - c.world.count(0);
        c.world.hold((int) c.answer("| k | 1 to: " + chain + " Do: [ | :i | k: ({ n <- 0 } n: k) ]. k"), true);
        c.world.sweep();
        for (int k = 0; k < 20 && c.world.count(0) < 100 - room; k++) {
            boolean last = c.world.count(0) == 98 - room;
            c.world.hold(c.run("3"), true);
            // The last process is held with its activation: the one behind it would not have both.
            for (int o = 10; o < 100 && last; o++) {
                c.world.hold(o, true);
            }
            c.world.sweep();
        }
        due("room behind " + ahead, 100 - c.world.count(0), room);
        return c;
    }

    /** Feeds a text; what is missing to a multiple of 20 bytes is filled up with 0. */
    boolean feed(String text) {
        boolean taken = true;
        for (int i = 0; i < text.length(); i += 20) {
            int[] five = new int[5];
            for (int k = 0; k < 20; k++) {
                int c = i + k < text.length() ? text.charAt(i + k) : 0;
                five[k / 4] = five[k / 4] << 8 | c;
            }
            taken = world.feed(five[0], five[1], five[2], five[3], five[4]) && taken;
        }
        return taken;
    }

    int tell(String text) {
        feed(text);
        return world.tell(text.length());
    }

    /** Tells a text and works out all that can be: the process. */
    int run(String text) {
        int p = tell(text);
        for (int i = 0; i < 40 && world.turn(3000) > 0; i++) {
            continue;
        }
        return p;
    }

    long answer(String text) {
        return world.answer(run(text), 0);
    }

    void gives(String text, long want) {
        due(text, answer(text), want);
    }

    void givesWhole(String text, long want) {
        due(text, answer(text), WHOLE + want);
    }

    /** What a text answers is a string of these letters. */
    void givesString(String text, String want) {
        due(text, string(answer(text)), want);
    }

    String string(long o) {
        if (o < 0 || o > 600 || world.object((int) o, 0) != 1) {
            return "no string: " + o;
        }
        StringBuilder letters = new StringBuilder();
        for (int i = 0; i < world.object((int) o, 1); i++) {
            letters.append((char) (world.value((int) o, i) - WHOLE));
        }
        return letters.toString();
    }

    /** A text is stopped by this error of this selector, sent to this value with so many arguments. */
    int stops(String text, int error, String selector, long to, int arguments) {
        int p = run(text);
        due(text + ": state", world.process(p, 0), 3);
        due(text + ": error", world.process(p, 4), error);
        due(text + ": selector", erred(p), selector);
        due(text + ": went to", world.answer(p, 1), to);
        due(text + ": arguments", world.process(p, 6), arguments);
        return p;
    }

    /** A text is stopped by this error of this selector; then it is mended till it has ended. */
    void errs(String text, int error, String selector, int arguments) {
        int p = run(text);
        due(text + ": error", world.process(p, 4), error);
        due(text + ": selector", erred(p), selector);
        due(text + ": arguments", world.process(p, 6), arguments);
        finish(p);
    }

    /** Mends a process with nil till it has ended. */
    void finish(int p) {
        for (int k = 0; k < 100 && world.mend(p, 0); k++) {
            world.turn(3000);
        }
    }

    String erred(int p) {
        StringBuilder letters = new StringBuilder();
        for (int k = 0; k < 64; k++) {
            int c = (int) (world.erred(p, k) >>> 56);
            if (c != 0) {
                letters.append((char) c);
            }
        }
        return letters.toString();
    }

    String selector(int o, int i) {
        StringBuilder letters = new StringBuilder();
        for (int k = 0; k < 64; k++) {
            int c = (int) (world.selector(o, i, k) >>> 56);
            if (c != 0) {
                letters.append((char) c);
            }
        }
        return letters.toString();
    }

    String written() {
        StringBuilder letters = new StringBuilder();
        for (int i = 0; i < world.count(8); i++) {
            letters.append((char) (world.octets(i) >>> 56));
        }
        return letters.toString();
    }

    String fetched() {
        StringBuilder letters = new StringBuilder();
        for (long got = world.fetch(); got != 0; got = world.fetch()) {
            for (int i = 0; i < (int) (got >>> 56); i++) {
                letters.append((char) (got >>> 48 - 8 * i & 255));
            }
        }
        return letters.toString();
    }

    void faults(String text, int fault, int place) {
        int told = tell(text);
        due(text + ": told", told < 0 ? told : 0, fault == 0 ? 0 : -1);
        due(text + ": fault", world.fault(0), fault);
        due(text + ": place", world.fault(1), place);
        while (world.turn(3000) > 0) {
            continue;
        }
        if (told >= 0 && world.process(told, 0) == 3) {
            world.mend(told, 0);
        }
    }

    /** The fault is at the first place where this part of the text stands. */
    void faultsAt(String text, int fault, String part) {
        faults(text, fault, text.indexOf(part));
    }
}
