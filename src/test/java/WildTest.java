import java.util.Random;

/** No call throws or fails to end, for any arguments in any state; and like calls give like answers. */
public final class WildTest {
    private static final String[] PARTS = {"self ", "lobby ", "nil ", "true ", "3 ", "- ", "-1 ", "2147483647 ", "'abc' ", "'x:' ",
        "x ", "x: ", "foo ", "foo: ", "Bar: ", "_Add: ", "IfFail: ", "_Copy ", "_Spawn ", "_Value ", "_Yield ", "_Restart ",
        "_Slots: ", "_Define: ", "_Become: ", "_Take: ", "_Names ", "_Error: ", "_Semaphore: ", "_Wait ", "_Signal ", "_Print ",
        "value ", "value: ", "ensure: ", "unknown: ", "With: ", "resend.", "parent.", "( ", ") ", "[ ", "] ", "{ ", "} ", "| ",
        ". ", ". ", ": ", ":i ", "^ ", "= ", "<- ", "* ", "+ ", "\"note\" ", "\" ", "' ", "\\ ", "\u0000", "#"};
    private static final String[] TEXTS = {
        "self _Slots: { x <- 3. foo = ( [ ^ x ] ensure: [ x: x + 1 ] ). parent* = true. foo: n = ( foo: n + 1 ) }",
        "[ true ] whileTrue: [ x: { y = x. z = [ x ] } ]", "foo", "foo: 1", "[ [ foo ] _Spawn ] _Spawn value", "[ [ ^ 3 ] value ] _Spawn",
        "| a | a: (_Vector: 60 Fill: 'q'). [ a: (_Vector: 60 Fill: a). true ] whileTrue: [ a _Copy ]", "(_Semaphore: 0) wait",
        "self _Slots: { unknown: s With: v = ( s _Print. v zork ) }. 5 zork", "zork: (zork: (zork: { a = zork }))",
        "lobby _Take: 'nil'", "whole _Define: { }", "lobby _Become: true", "block _Become: lobby", "nil _Slots: { p* = nil }"};

    public static void main(String[] arguments) {
        for (int seed = 0; seed < 150; seed++) {
            long first = run(seed);
            Check.due("run " + seed + " again", run(seed), first);
        }
        Check.end("WildTest");
    }

    private static long run(int seed) {
        Random random = new Random(seed);
        Check c = new Check(100 + random.nextInt(40));
        long all = 0;
        for (int call = 0; call < 512; call++) {
            all = all * 31 + one(c, random);
        }
        return all;
    }

    private static int any(Random random) {
        int[] edges = {-1, 0, 1, 2, 3, 4, 10, 11, 12, 13, 59, 60, 99, 100, 600, 3000, 3001, 8000, Integer.MAX_VALUE, Integer.MIN_VALUE};
        return random.nextInt(3) == 0 ? edges[random.nextInt(edges.length)] : random.nextInt(40);
    }

    private static long value(Random random) {
        long[] edges = {-1, Long.MAX_VALUE, Long.MIN_VALUE, 1L << 40, (1L << 40) + (1L << 31), (1L << 40) - (1L << 31), 1L << 32};
        return random.nextInt(3) == 0 ? edges[random.nextInt(edges.length)] : random.nextInt(60);
    }

    private static String text(Random random) {
        if (random.nextInt(3) > 0) {
            return TEXTS[random.nextInt(TEXTS.length)];
        }
        StringBuilder text = new StringBuilder();
        for (int i = random.nextInt(25); i >= 0; i--) {
            text.append(PARTS[random.nextInt(PARTS.length)]);
        }
        return text.toString();
    }

    private static long one(Check c, Random random) {
        SlotWorld w = c.world;
        switch (random.nextInt(32)) {
            case 0: return w.feed(any(random), any(random), any(random), any(random), any(random)) ? 1 : 0;
            case 1: return w.tell(any(random));
            case 2: return w.fault(any(random));
            case 3: case 4: case 5: return w.turn(any(random));
            case 6: return w.process(any(random), any(random));
            case 7: return w.answer(any(random), any(random));
            case 8: return w.erred(any(random), any(random));
            case 9: return w.frame(any(random), any(random), any(random));
            case 10: case 11: return w.mend(any(random), value(random)) ? 1 : 0;
            case 12: return w.object(any(random), any(random));
            case 13: return w.slot(any(random), any(random));
            case 14: return w.value(any(random), any(random));
            case 15: return w.selector(any(random), any(random), any(random));
            case 16: return w.find(value(random), any(random));
            case 17: return w.found(any(random), any(random));
            case 18: return w.senders(any(random));
            case 19: return w.sender(any(random), any(random));
            case 20: return w.references(any(random));
            case 21: return w.hold(any(random), random.nextBoolean()) ? 1 : 0;
            case 22: return w.sweep();
            case 23: return w.undo() ? 1 : 0;
            case 24: return w.write();
            case 25: return w.octets(any(random));
            case 26: return w.fetch();
            case 27: return w.count(any(random));
            default: return c.tell(text(random));
        }
    }
}
