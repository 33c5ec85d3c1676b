/** Processes by turns: the row, goes of ten units, spawning, waiting, semaphores. */
public final class ProcessTest {
    private static final long W = Check.WHOLE;

    public static void main(String[] arguments) {
        goes();
        yields();
        spawning();
        values();
        semaphores();
        stoppedOnes();
        Check.end("ProcessTest");
    }

    private static void goes() {
        Check c = new Check(300);
        int a = c.tell("lobby lobby lobby lobby lobby lobby lobby lobby lobby lobby lobby lobby");
        int b = c.tell("lobby lobby lobby");
        Check.due("first", c.world.process(a, 3), 0);
        Check.due("second", c.world.process(b, 3), 1);
        c.world.turn(4);
        c.world.turn(5);
        Check.due("nine units in one go", c.world.process(a, 3), 0);
        c.world.turn(1);
        Check.due("behind its 10th unit", c.world.process(a, 3), 1);
        Check.due("the other one", c.world.process(b, 3), 0);
        c.world.turn(3);
        Check.due("units", c.world.process(b, 1), 3);
        Check.due("not ended yet", c.world.process(b, 0), 0);
        c.world.turn(1);
        Check.due("ended", c.world.process(b, 0), 2);
        Check.due("units", c.world.process(a, 1), 11);
        c.world.turn(3000);
        Check.due("answer", c.world.answer(a, 0), 3);
    }

    private static void yields() {
        Check c = new Check(300);
        int a = c.tell("lobby. 7 _Yield. lobby");
        int b = c.tell("lobby. _Yield. lobby");
        c.world.turn(2);
        Check.due("is last", c.world.process(a, 3), 1);
        c.world.turn(2);
        Check.due("is first", c.world.process(a, 3), 0);
        Check.due("is last", c.world.process(b, 3), 1);
        c.world.turn(9);
        Check.due("both end", c.world.count(4), 0);
        c.givesWhole("7 _Yield", 7);
    }

    private static void spawning() {
        Check c = new Check(300);
        int p = c.tell("[ 3 + 4 ] _Spawn");
        c.world.turn(1);
        int q = c.world.process(12, 0) >= 0 ? 12 : 13;
        Check.due("a process", c.world.object(q, 0), 5);
        Check.due("behind the other", c.world.process(q, 3), 1);
        Check.due("not at work", c.world.process(q, 2), 0);
        c.world.turn(100);
        Check.due("its answer", c.world.answer(q, 0), W + 7);
        Check.due("the answer is the process", c.world.answer(p, 0), q);
        c.run("[ zork ] _Spawn");
        c.run("self _Slots: { w = 3. m = ( [ w ] _Spawn _Value ) }");
        c.givesWhole("m", 3);
        int r = (int) c.answer("[ ^ 3 ] _Spawn");
        Check.due("gone", c.world.process(r, 4), 5);
        Check.due("a block's body", c.world.frame(r, 0, 3), 2);

        Check d = new Check(300);
        d.givesString("1 to: 11 Do: [ | :i | [ zork ] _Spawn ]. [ 3 ] _SpawnIfFail: [ | :r | r ]", "full");
        Check.due("not ended", d.world.count(4), 11);
        Check.due("not ready", d.world.count(5), 0);
        Check.due("eleven are stopped: one more", d.tell("3") > 0, true);
        Check.due("a 13th is refused", d.tell("3"), -2);
    }

    private static void values() {
        Check c = new Check(300);
        int p = c.tell("| q | q: [ _Yield. 5 ] _Spawn. q value + 1");
        c.world.turn(3);
        Check.due("waits", c.world.process(p, 0), 1);
        Check.due("not in the row", c.world.process(p, 3), -1);
        Check.due("one is ready", c.world.count(5), 1);
        c.world.turn(100);
        Check.due("goes on", c.world.answer(p, 0), W + 6);
        c.givesWhole("[ 4 ] _Spawn _Value", 4);
        c.givesWhole("1 + ([ _Yield. 4 ] _Spawn _ValueIfFail: nil)", 5);
        c.givesWhole("| q | q: [ 4 ] _Spawn. q _Value. q _Value", 4);
        int both = c.tell("self _Slots: { q <- 0 }. q: [ zork ] _Spawn. [ q _Value + 1 ] _Spawn. [ q _Value + 2 ] _Spawn");
        c.world.turn(100);
        Check.due("told", c.world.process(both, 0), 2);
        int q = (int) c.answer("q");
        Check.due("stopped", c.world.process(q, 0), 3);
        Check.due("three are not ended", c.world.count(4), 3);
        c.world.mend(q, W + 10);
        c.world.turn(0);
        Check.due("one is ready", c.world.count(5), 1);
        c.world.turn(1);
        Check.due("both go on", c.world.count(4), 2);
        c.world.turn(100);
        Check.due("all ended", c.world.count(4), 0);
        int own = c.run("zork _Value. 3");
        c.world.mend(own, own);
        c.world.turn(100);
        Check.due("who waits for himself", c.world.process(own, 0), 1);
    }

    private static void semaphores() {
        Check c = new Check(300);
        c.run("self _Slots: { s <- 0. n <- '' }. s: (_Semaphore: 1)");
        int s = (int) c.answer("s");
        Check.due("sort", c.world.object(s, 0), 6);
        Check.due("signals", c.world.object(s, 1), 1);
        c.gives("s wait", s);
        Check.due("one less", c.world.object(s, 1), 0);
        c.run("[ s wait. 'a' _Print ] _Spawn. [ s wait. 'b' _Print ] _Spawn. [ s _Wait. 'c' _Print ] _Spawn");
        Check.due("three wait", c.world.count(4), 3);
        Check.due("none is ready", c.world.count(5), 0);
        int p = c.tell("s signal. s signal");
        c.world.turn(3);
        Check.due("one goes on", c.world.count(5), 2);
        Check.due("no signal more", c.world.object(s, 1), 0);
        c.world.turn(300);
        Check.due("the one that waits longest", c.fetched(), "ab");
        Check.due("its answer", c.world.answer(p, 0), s);
        c.run("s signal. s signal");
        Check.due("the last", c.fetched(), "c");
        Check.due("one signal more", c.world.object(s, 1), 1);
        c.run("s wait. [ _Yield. s wait. 'd' _Print ] _Spawn. [ s wait. 'e' _Print ] _Spawn");
        c.run("s signal. s signal");
        Check.due("who waits longest, not who was there first", c.fetched(), "ed");
        // Who waits for what no one has waits for ever, also when the number is another's.
        int lost = c.run("(_Semaphore: 0) _Wait");
        Check.due("waits", c.world.process(lost, 0), 1);
        Check.due("went", c.world.sweep() > 0, true);
        c.run("self _Slots: { t <- 0. u <- 0. v <- 0 }. t: (_Semaphore: 0). u: (_Semaphore: 0). v: (_Semaphore: 0). t signal. u signal. v signal");
        Check.due("waits still", c.world.process(lost, 0), 1);
    }

    private static void stoppedOnes() {
        Check c = new Check(300);
        int a = c.tell("lobby. zork. lobby");
        int b = c.tell("3");
        c.world.turn(2);
        Check.due("stopped", c.world.process(a, 0), 3);
        Check.due("not in the row", c.world.process(a, 3), -1);
        Check.due("the next is first", c.world.process(b, 3), 0);
        Check.due("units", c.world.process(a, 1), 2);
        c.world.mend(a, 0);
        Check.due("at the end of the row", c.world.process(a, 3), 1);
        Check.due("one unit is left", c.world.turn(100), 1);
    }
}
