/**
 * A world of objects without classes: texts are told to it, processes work them out by turns,
 * and looks tell what is there. All memory is made once, in the constructor.
 */
public final class SlotWorld {
    private static final long WHOLE = 1L << 40;
    private static final long LEAST = WHOLE + Integer.MIN_VALUE;
    private static final long MOST = WHOLE + Integer.MAX_VALUE;

    private static final int NIL = 0;
    private static final int TRUE = 1;
    private static final int FALSE = 2;
    private static final int LOBBY = 3;
    private static final int WHOLES = 4;
    private static final int STRINGS = 5;
    private static final int VECTORS = 6;
    private static final int BLOCKS = 7;
    private static final int PROCESSES = 8;
    private static final int SEMAPHORES = 9;
    private static final int ALWAYS = 10;

    private static final int FREE = -1;
    private static final int PLAIN = 0;
    private static final int STRING = 1;
    private static final int VECTOR = 2;
    private static final int BLOCK = 3;
    private static final int ACTIVATION = 4;
    private static final int PROCESS = 5;
    private static final int SEMAPHORE = 6;

    private static final int CONSTANT = 0;
    private static final int ASSIGNABLE = 1;
    private static final int METHOD = 2;
    private static final int PARENT = 4;

    private static final int ROW = 60;
    private static final int SLOTS = 24;
    private static final int DEEPEST = 60;
    private static final int TASKS = 12;
    private static final int OPENS = 12;
    private static final int CELLS = 12;
    private static final int ARGUMENTS = 8;
    private static final int SELECTOR = 60;
    private static final int TEXT_WORDS = 4000;
    private static final int ALL_WORDS = 8000;
    private static final int ALL_LETTERS = 200000;
    private static final int CHANGES = 20;
    private static final int GO = 10;
    private static final int SIGNALS = 1000;
    private static final int TAPE = 8000;
    private static final int OUT = 4000;
    private static final int WRITTEN = 8000;

    // Within 512 calls at most 10220 bytes can be fed: these rows hold all that such texts can tell.
    private static final int CODE_ROOM = 48000;
    private static final int LETTER_ROOM = 12500;
    private static final int SYMBOL_ROOM = 6500;
    private static final int NAME_ROOM = 26000;
    private static final int STACK = 120 * DEEPEST + 64;
    private static final int LONG_RUN = 2000000000;

    private static final int SYNTAX = 1;
    private static final int ROOM = 2;
    private static final int TWICE = 3;
    private static final int UNLIKE = 4;
    private static final int CODE = 5;

    private static final int ERROR_NONE = 1;
    private static final int ERROR_AMBIGUOUS = 2;
    private static final int ERROR_ACT = 3;
    private static final int ERROR_COUNT = 4;
    private static final int ERROR_GONE = 5;
    private static final int ERROR_DEPTH = 6;
    private static final int ERROR_ROOM = 7;
    private static final int ERROR_TOLD = 8;

    private static final int READY = 0;
    private static final int WAITS = 1;
    private static final int STOPPED = 3;
    private static final int ENDED = 2;

    // Kinds of words; a word of one byte ( ) [ ] { } | . : ^ has that byte as its kind.
    private static final int END = 256;
    private static final int BAD = 257;
    private static final int NAME = 258;
    private static final int KEY = 259;
    private static final int MORE = 260;
    private static final int TO = 261;
    private static final int ACT = 262;
    private static final int ACTKEY = 263;
    private static final int SELF = 264;
    private static final int NUMBER = 265;
    private static final int QUOTED = 266;
    private static final int SIGN = 267;

    private static final int NO_TO = -1;
    private static final int RESEND = -2;

    // Kinds of bodies, and what stands at the head of each one in the code, ahead of its cells.
    private static final int TEXT_BODY = 0;
    private static final int METHOD_BODY = 1;
    private static final int BLOCK_BODY = 2;
    private static final int SLOT_BODY = 3;
    private static final int ENSURE_BODY = 4;
    private static final int BODY_END = 1;
    private static final int BODY_ARGUMENTS = 2;
    private static final int BODY_CELLS = 3;
    private static final int BODY_LETTERS = 4;
    private static final int BODY_LENGTH = 5;
    private static final int HEAD = 6;
    private static final int CELL = 3;

    // Where the house's own body of ensure: stands: its first is at work till the code goes on at
    // ENSURE_FIRST; a ^ that leaves it then goes on at ENSURE_LEFT.
    private static final int ENSURE_AT = 0;
    private static final int ENSURE_FIRST = HEAD + CELL + 2;
    private static final int ENSURE_LEFT = ENSURE_FIRST + 6;

    private static final int DO_THROUGH = 0;
    private static final int DO_NIL = 1;
    private static final int DO_WHOLE = 2;
    private static final int DO_STRING = 3;
    private static final int DO_SELF = 4;
    private static final int DO_CELL = 5;
    private static final int DO_CHANGE = 6;
    private static final int DO_SEND = 7;
    private static final int DO_RESEND = 8;
    private static final int DO_DIRECT = 9;
    private static final int DO_PASS = 10;
    private static final int DO_BLOCK = 11;
    private static final int DO_SLOT = 12;
    private static final int DO_METHOD = 13;
    private static final int DO_OBJECT = 14;
    private static final int DO_POP = 15;
    private static final int DO_CARET = 16;
    private static final int DO_GO_ON = 17;

    // Symbols that the house itself knows, in the order in which they are made.
    private static final String HOUSE = "value value: value:With: value:With:With: unknown:With: - * = <- resend ensure: ";
    private static final int VALUE = 0;
    private static final int VALUE_1 = 1;
    private static final int VALUE_3 = 3;
    private static final int UNKNOWN = 4;
    private static final int MINUS = 5;
    private static final int STAR = 6;
    private static final int EQUALS = 7;
    private static final int ARROW = 8;
    private static final int RESEND_NAME = 9;
    private static final int ENSURE = 10;
    private static final int PERFORMED = -1;
    private static final int LITERAL = -2;
    private static final int CARET = -3;

    // What is to be done next for the process at work: a turn does one after the other.
    private static final int STEP = 0;
    private static final int SEND = 1;
    private static final int USE = 2;
    private static final int PASS = 3;
    private static final int DO_ACT = 4;
    private static final int FAIL = 5;
    private static final int STOP = 6;
    private static final int LEAVE = 7;
    private static final int THROUGH = 8;
    private static final int ENDS = 9;

    private static final String SIGNS = "+-*/%<>=&~!@,?";
    private static final String SINGLES = "()[]{}|.:^";
    private static final String IF_FAIL = "IfFail:";

    private static final String ACTS = "_Add: _Sub: _Mul: _Div: _Mod: _And: _Or: _Xor: _Shift: _Less: _Same: _Copy _Vector:Fill: _Size _At: _At:Put: _Join: _Text _Whole _Bytes _Perform:With: _Restart _Error: _Print _Names _Kind: _Peek: _Slots: _Take: _Define: _Become: _Spawn _Value _Yield _Semaphore: _Wait _Signal ";
    private static final int ACT_ADD = 1;
    private static final int ACT_SUB = 2;
    private static final int ACT_MUL = 3;
    private static final int ACT_DIV = 4;
    private static final int ACT_MOD = 5;
    private static final int ACT_AND = 6;
    private static final int ACT_OR = 7;
    private static final int ACT_XOR = 8;
    private static final int ACT_SHIFT = 9;
    private static final int ACT_LESS = 10;
    private static final int ACT_SAME = 11;
    private static final int ACT_COPY = 12;
    private static final int ACT_VECTOR = 13;
    private static final int ACT_SIZE = 14;
    private static final int ACT_AT = 15;
    private static final int ACT_AT_PUT = 16;
    private static final int ACT_JOIN = 17;
    private static final int ACT_TEXT = 18;
    private static final int ACT_WHOLE = 19;
    private static final int ACT_BYTES = 20;
    private static final int ACT_PERFORM = 21;
    private static final int ACT_RESTART = 22;
    private static final int ACT_ERROR = 23;
    private static final int ACT_PRINT = 24;
    private static final int ACT_NAMES = 25;
    private static final int ACT_KIND = 26;
    private static final int ACT_PEEK = 27;
    private static final int ACT_SLOTS = 28;
    private static final int ACT_TAKE = 29;
    private static final int ACT_DEFINE = 30;
    private static final int ACT_BECOME = 31;
    private static final int ACT_SPAWN = 32;
    private static final int ACT_VALUE = 33;
    private static final int ACT_YIELD = 34;
    private static final int ACT_SEMAPHORE = 35;
    private static final int ACT_WAIT = 36;
    private static final int ACT_SIGNAL = 37;

    private static final String REASONS = "type overflow divisor index size name full count digits act ";
    private static final int TYPE = 1;
    private static final int OVERFLOW = 2;
    private static final int DIVISOR = 3;
    private static final int INDEX = 4;
    private static final int SIZE = 5;
    private static final int NO_NAME = 6;
    private static final int FULL = 7;
    private static final int UNLIKE_MANY = 8;
    private static final int DIGITS = 9;
    private static final int NO_ACT = 10;

    private static final String LOBBY_NAMES = "nil true false lobby whole string vector block process semaphore ";
    private static final String KERNEL_TRUE = "true _Slots: { parent* = lobby. ifTrue: b = ( b value ). ifFalse: b = ( nil ). ifTrue: b False: c = ( b value ). and: b = ( b value ). or: b = ( self ). not = ( false ) }. ";
    private static final String KERNEL_FALSE = "false _Slots: { parent* = lobby. ifTrue: b = ( nil ). ifFalse: b = ( b value ). ifTrue: b False: c = ( c value ). and: b = ( self ). or: b = ( b value ). not = ( true ) }. ";
    private static final String KERNEL_WHOLE = "whole _Slots: { parent* = lobby. + a = ( _Add: a ). - a = ( _Sub: a ). * a = ( _Mul: a ). / a = ( _Div: a ). % a = ( _Mod: a ). < a = ( _Less: a ). > a = ( a < self ). = a = ( _Same: a ). to: n Do: b = ( | i | i: self. [ i > n ] whileFalse: [ b value: i. i: i + 1 ]. self ) }. ";
    private static final String KERNEL_STRING = "string _Slots: { parent* = lobby. , s = ( _Join: s ). size = ( _Size ). at: i = ( _At: i ). = s = ( _Same: s ) }. ";
    private static final String KERNEL_VECTOR = "vector _Slots: { parent* = lobby. size = ( _Size ). at: i = ( _At: i ). at: i Put: x = ( _At: i Put: x ). do: b = ( 0 to: size - 1 Do: [ | :i | b value: (at: i) ] ) }. ";
    private static final String KERNEL_BLOCK = "block _Slots: { parent* = lobby. whileTrue: b = ( value ifFalse: [ ^ self ]. b value. _Restart ). whileFalse: b = ( value ifTrue: [ ^ self ]. b value. _Restart ) }. ";
    private static final String KERNEL_PROCESS = "process _Slots: { parent* = lobby. value = ( _Value ) }. ";
    private static final String KERNEL_SEMAPHORE = "semaphore _Slots: { parent* = lobby. wait = ( _Wait ). signal = ( _Signal ) }. ";

    private final Bytes tape;
    private final Bytes out;
    private final Program program;
    private final Reader reader;
    private final Heap heap;
    private final Tasks tasks;
    private final Keeper keeper;
    private final Looks looks;
    private final Machine machine;
    private final Acts acts;

    public SlotWorld(int objects) {
        tape = new Bytes(TAPE);
        out = new Bytes(OUT);
        program = new Program();
        reader = new Reader(program, tape);
        heap = new Heap(objects >= 100 && objects <= 600 ? objects : 300);
        tasks = new Tasks(heap);
        keeper = new Keeper(program, heap, tasks);
        looks = new Looks(program, heap);
        machine = new Machine(program, heap, tasks, keeper, looks);
        acts = new Acts(machine, out);
        keeper.makeAlways();
        tape.putText(KERNEL_TRUE);
        tape.putText(KERNEL_FALSE);
        tape.putText(KERNEL_WHOLE);
        tape.putText(KERNEL_STRING);
        tape.putText(KERNEL_VECTOR);
        tape.putText(KERNEL_BLOCK);
        tape.putText(KERNEL_PROCESS);
        tape.putText(KERNEL_SEMAPHORE);
        tell(tape.size);
        turn(3000);
        keeper.forget();
        sweep();
        machine.units = 0;
        machine.activations = 0;
        keeper.sweeps = 0;
        reader.forget();
    }

    public boolean feed(int a, int b, int c, int d, int e) {
        if (tape.size + 20 > TAPE) {
            return false;
        }
        tape.putFour(a);
        tape.putFour(b);
        tape.putFour(c);
        tape.putFour(d);
        tape.putFour(e);
        return true;
    }

    public int tell(int n) {
        if (n < 0 || n > tape.size || tasks.open >= TASKS) {
            return -2;
        }
        int body = reader.read(n);
        tape.size = 0;
        if (body < 0) {
            return -1;
        }
        int o = keeper.make(PROCESS);
        if (o < 0) {
            return -3;
        }
        tasks.begin(o, body, -1);
        return o;
    }

    public int fault(int what) {
        if (what == 0) {
            return reader.faultNumber;
        }
        return what == 1 ? reader.faultPlace : -1;
    }

    public int turn(int n) {
        if (n < 0 || n > 3000) {
            return -1;
        }
        int done = 0;
        int phase = STEP;
        for (int k = 0; k < LONG_RUN && done < n && tasks.ready > 0; k++) {
            switch (phase) {
                case SEND: phase = machine.deliver(); break;
                case USE: phase = machine.useSlot(); break;
                case PASS: phase = machine.passUnknown(); break;
                case DO_ACT: phase = acts.act(); break;
                case FAIL: phase = machine.giveReason(); break;
                case STOP: phase = machine.stop(); break;
                case LEAVE: phase = machine.leave(); break;
                case THROUGH: phase = machine.through(); break;
                case ENDS:
                    tasks.end(machine.task, machine.given);
                    phase = STEP;
                    break;
                default: phase = machine.step(); break;
            }
            if (phase == STEP && machine.unit) {
                machine.closeUnit();
                done++;
            }
        }
        return done;
    }

    public int process(int p, int what) {
        if (!heap.isSort(p, PROCESS)) {
            return -1;
        }
        int i = tasks.indexOf(p);
        boolean open = i >= 0;
        Task task = tasks.all[Math.max(0, i)];
        boolean stopped = open && task.state == STOPPED;
        switch (what) {
            case 0: return open ? task.state : ENDED;
            case 1: return open ? task.units : (int) heap.at(p, 1);
            case 2: return open ? task.depth : 0;
            case 3: return open ? tasks.placeOf(task) : -1;
            case 4: return stopped ? task.error : 0;
            case 5: return stopped ? task.reason : 0;
            case 6: return stopped ? task.erredArguments : 0;
            default: return -1;
        }
    }

    public long answer(int p, int what) {
        int i = tasks.indexOf(p);
        if (what == 0 && heap.isSort(p, PROCESS)) {
            return i < 0 ? heap.at(p, 0) : NIL;
        }
        if (i < 0 || tasks.all[i].state != STOPPED) {
            return -1;
        }
        if (what == 1) {
            return tasks.all[i].erredTo;
        }
        return what == 2 ? tasks.all[i].told : -1;
    }

    public long erred(int p, int k) {
        int i = tasks.indexOf(p);
        return i >= 0 && tasks.all[i].state == STOPPED ? tasks.all[i].erredName.eight(k) : 0;
    }

    public int frame(int p, int i, int what) {
        int at = tasks.indexOf(p);
        if (at < 0 || i < 0 || i >= tasks.all[at].depth) {
            return -1;
        }
        int o = tasks.all[at].activation(tasks.all[at].depth - 1 - i);
        long self = heap.selfOf(o);
        switch (what) {
            case 0: return o;
            case 1: return isWhole(self) ? -1 : (int) self;
            case 2: return heap.holderOf(o);
            case 3: return program.op(heap.bodyOf(o));
            default: return -1;
        }
    }

    public boolean mend(int p, long value) {
        int i = tasks.indexOf(p);
        if (i < 0 || tasks.all[i].state != STOPPED || !heap.isValue(value)) {
            return false;
        }
        tasks.goOn(tasks.all[i], value);
        return true;
    }

    public int object(int o, int what) {
        if (!heap.lives(o)) {
            return -1;
        }
        switch (what) {
            case 0: return heap.sort[o];
            case 1: return heap.size[o];
            case 2: return looks.shape(o);
            case 3: return heap.held[o] ? 1 : 0;
            default: return -1;
        }
    }

    public int slot(int o, int i) {
        return heap.kind(o, i);
    }

    public long value(int o, int i) {
        if (!heap.lives(o) || i < 0) {
            return -1;
        }
        switch (heap.sort[o]) {
            case PLAIN: return i < heap.size[o] && heap.kind(o, i) != METHOD ? heap.at(o, i) : -1;
            case STRING: return i < heap.size[o] ? WHOLE + heap.at(o, i) : -1;
            case VECTOR: case ACTIVATION: return i < heap.size[o] ? heap.at(o, i) : -1;
            case BLOCK: return i == 0 ? heap.home[o] : -1;
            default: return -1;
        }
    }

    public long selector(int o, int i, int k) {
        return heap.hasSlot(o, i) ? program.eight(heap.named(o, i), k) : 0;
    }

    public int find(long value, int n) {
        if (!heap.isValue(value) || n < 1 || n > tape.size) {
            return -1;
        }
        looks.keepFound(heap.startOf(value), tape, n);
        tape.size = 0;
        return looks.founds;
    }

    public int found(int k, int what) {
        return k >= 0 && k < looks.founds ? looks.part(looks.found[k], what) : -1;
    }

    public int senders(int n) {
        if (n < 1 || n > tape.size) {
            return -1;
        }
        looks.keepSenders(program.known(tape, 0, n));
        tape.size = 0;
        return looks.sendings;
    }

    public int sender(int k, int what) {
        return k >= 0 && k < looks.sendings ? looks.part(looks.sending[k], what) : -1;
    }

    public int references(int o) {
        return heap.lives(o) ? looks.referencesTo(o) : -1;
    }

    public boolean hold(int o, boolean on) {
        if (!heap.lives(o)) {
            return false;
        }
        heap.held[o] = on;
        return true;
    }

    public int sweep() {
        keeper.markRoots();
        keeper.markTasks();
        keeper.markInner();
        return keeper.freeRest();
    }

    public boolean undo() {
        return keeper.takeBack();
    }

    public int write() {
        return looks.writeWorld();
    }

    public long octets(int i) {
        return looks.written.eight(i);
    }

    public long fetch() {
        int n = Math.min(7, out.size);
        long bytes = n;
        for (int i = 0; i < 7; i++) {
            bytes = bytes << 8 | out.at(i);
        }
        out.drop(n);
        return bytes;
    }

    public int count(int what) {
        switch (what) {
            case 0: return heap.live;
            case 1: return tape.size;
            case 2: return out.size;
            case 3: return machine.units;
            case 4: return tasks.open;
            case 5: return tasks.ready;
            case 6: return keeper.kept;
            case 7: return reader.allWords;
            case 8: return looks.written.size;
            case 9: return looks.lost;
            case 10: return keeper.sweeps;
            case 11: return machine.activations;
            default: return -1;
        }
    }

    private static boolean isWhole(long v) {
        return v >= LEAST;
    }

    private static boolean isNameByte(int c) {
        return c >= 'a' && c <= 'z' || c >= 'A' && c <= 'Z' || c >= '0' && c <= '9' || c == '_';
    }

    /** A row of bytes that grows up to its room. */
    private static final class Bytes {
        final byte[] row;
        int size;

        Bytes(int most) {
            row = new byte[most];
        }

        void put(int b) {
            if (size < row.length) {
                row[size] = (byte) b;
                size++;
            }
        }

        void putFour(int word) {
            put(word >>> 24);
            put(word >>> 16);
            put(word >>> 8);
            put(word);
        }

        void putText(String text) {
            for (int i = 0; i < text.length(); i++) {
                put(text.charAt(i));
            }
        }

        void putPart(Bytes from, int start, int n) {
            for (int i = 0; i < n; i++) {
                put(from.at(start + i));
            }
        }

        void putDigits(long number) {
            long rest = number < 0 ? -number : number;
            if (number < 0) {
                put('-');
            }
            long power = 1;
            for (int i = 0; i < 18 && rest / power >= 10; i++) {
                power *= 10;
            }
            for (int i = 0; i < 19 && power > 0; i++) {
                put('0' + (int) (rest / power % 10));
                power /= 10;
            }
        }

        /** Puts word k (from 0 on) of a row of words that each have a blank behind them. */
        void putWord(String words, int k) {
            int at = 0;
            for (int i = 0; i < words.length() && at <= k; i++) {
                if (words.charAt(i) == ' ') {
                    at++;
                } else if (at == k) {
                    put(words.charAt(i));
                }
            }
        }

        int at(int i) {
            return i >= 0 && i < size ? row[i] & 255 : 0;
        }

        long eight(int from) {
            long bytes = 0;
            for (int i = 0; i < 8; i++) {
                bytes = bytes << 8 | (from < 0 ? 0 : at(from + i));
            }
            return bytes;
        }

        boolean has(int start, int n) {
            return start >= 0 && n >= 0 && start <= size - n;
        }

        boolean same(int start, Bytes other, int otherStart, int n) {
            if (!has(start, n) || !other.has(otherStart, n)) {
                return false;
            }
            for (int i = 0; i < n; i++) {
                if (row[start + i] != other.row[otherStart + i]) {
                    return false;
                }
            }
            return true;
        }

        int mix(int start, int n) {
            int mixed = n;
            for (int i = 0; i < n && has(start, n); i++) {
                mixed = mixed * 31 + row[start + i];
            }
            return mixed & 255;
        }

        void drop(int n) {
            if (n <= 0 || n > size) {
                return;
            }
            System.arraycopy(row, n, row, 0, size - n);
            size -= n;
        }
    }

    /** What texts told: symbols (selectors and names), code, and the letters as they are written. */
    private static final class Program {
        final Bytes names = new Bytes(NAME_ROOM);
        final int[] start = new int[SYMBOL_ROOM];
        final int[] length = new int[SYMBOL_ROOM];
        final int[] next = new int[SYMBOL_ROOM];
        final int[] base = new int[SYMBOL_ROOM];
        final int[] parts = new int[SYMBOL_ROOM];
        private final boolean[] fails = new boolean[SYMBOL_ROOM];
        final int[] heads = new int[256];
        int symbols;
        final int[] code = new int[CODE_ROOM];
        int end;
        final Bytes letters = new Bytes(LETTER_ROOM);
        final Bytes scratch = new Bytes(64);
        private final int firstAct;

        Program() {
            for (int i = 0; i < heads.length; i++) {
                heads[i] = -1;
            }
            addWords(HOUSE, "");
            firstAct = symbols;
            addWords(ACTS, IF_FAIL);
            emitEnsure();
        }

        /** Each of these words, which have a blank behind them, becomes a symbol; so does it with more. */
        private void addWords(String words, String more) {
            scratch.size = 0;
            for (int i = 0; i < words.length(); i++) {
                if (words.charAt(i) != ' ') {
                    scratch.put(words.charAt(i));
                } else {
                    symbol(scratch, 0, scratch.size);
                    scratch.putText(more);
                    symbol(scratch, 0, scratch.size);
                    scratch.size = 0;
                }
            }
        }

        private void emitEnsure() {
            emit(ENSURE_BODY);
            emit(ENSURE_LEFT + 6);
            emit(1);
            emit(1);
            for (int i = BODY_LETTERS; i < HEAD + CELL; i++) {
                emit(0);
            }
            emit(DO_SELF);
            emit(DO_PASS);
            emitCellValue();
            emit(DO_THROUGH);
            emitCellValue();
            emit(DO_GO_ON);
        }

        private void emitCellValue() {
            emit(DO_CELL);
            emit(0);
            emit(0);
            emit(DO_PASS);
            emit(DO_POP);
        }

        int wordSymbol(String words, int k) {
            scratch.size = 0;
            scratch.putWord(words, k);
            return symbol(scratch, 0, scratch.size);
        }

        /** The symbol of these bytes, or -1 if no text has told it. */
        int known(Bytes from, int at, int n) {
            int s = heads[from.mix(at, n)];
            for (int k = 0; k < SYMBOL_ROOM && s >= 0 && s < symbols; k++) {
                if (length[s] == n && names.same(start[s], from, at, n)) {
                    return s;
                }
                s = next[s];
            }
            return -1;
        }

        int symbol(Bytes from, int at, int n) {
            int s = known(from, at, n);
            if (s >= 0 || symbols + 2 > SYMBOL_ROOM || names.size + n + n > NAME_ROOM) {
                return s < 0 ? 0 : s;
            }
            s = add(from, at, n);
            if (isSetter(from, at, n)) {
                int x = known(from, at, n - 1);
                base[s] = x < 0 ? add(from, at, n - 1) : x;
            }
            return s;
        }

        /** Whether these bytes are x: , x being a name. */
        boolean isSetter(Bytes from, int at, int n) {
            if (n < 2 || from.at(at) < 'a' || from.at(at) > 'z' || from.at(at + n - 1) != ':') {
                return false;
            }
            for (int i = 0; i < n - 1; i++) {
                if (!isNameByte(from.at(at + i))) {
                    return false;
                }
            }
            return true;
        }

        private int add(Bytes from, int at, int n) {
            int s = symbols;
            int head = from.mix(at, n);
            start[s] = names.size;
            length[s] = n;
            names.putPart(from, at, n);
            next[s] = heads[head];
            heads[head] = s;
            base[s] = -1;
            parts[s] = countParts(from, at, n);
            fails[s] = endsInIfFail(from, at, n)
                && (parts[s] == 1 || from.at(at + n - IF_FAIL.length() - 1) == ':');
            symbols++;
            return s;
        }

        private int countParts(Bytes from, int at, int n) {
            if (n > 0 && SIGNS.indexOf((char) from.at(at)) >= 0) {
                return 1;
            }
            int keys = 0;
            for (int i = 0; i < n; i++) {
                keys += from.at(at + i) == ':' ? 1 : 0;
            }
            return keys;
        }

        private boolean endsInIfFail(Bytes from, int at, int n) {
            int cut = n - IF_FAIL.length();
            boolean ends = cut > 0;
            for (int i = 0; ends && i < IF_FAIL.length(); i++) {
                ends = from.at(at + cut + i) == IF_FAIL.charAt(i);
            }
            return ends;
        }

        boolean isAct(int s) {
            return s >= 0 && s < symbols && names.at(start[s]) == '_';
        }

        /** The number of an act, with IfFail: or without; 0 if there is no such one. */
        int actOf(int s) {
            int k = s - firstAct;
            return k >= 0 && k < 2 * ACT_SIGNAL ? k / 2 + 1 : 0;
        }

        boolean failsToBlock(int s) {
            return s >= 0 && s < symbols && fails[s];
        }

        int baseOf(int s) {
            return s >= 0 && s < symbols ? base[s] : -1;
        }

        int partsOf(int s) {
            return s >= 0 && s < symbols ? parts[s] : 0;
        }

        void putName(Bytes to, int s) {
            if (s >= 0 && s < symbols) {
                to.putPart(names, start[s], length[s]);
            }
        }

        long eight(int s, int from) {
            scratch.size = 0;
            putName(scratch, s);
            return scratch.eight(from);
        }

        /** All that was told behind these marks is forgotten, as after a fault. */
        void cutBack(int toSymbols, int toNames, int toEnd, int toLetters) {
            for (int s = symbols - 1; s >= toSymbols && s >= 0; s--) {
                heads[names.mix(start[s], length[s])] = next[s];
            }
            symbols = toSymbols;
            names.size = toNames;
            end = toEnd;
            letters.size = toLetters;
        }

        void emit(int word) {
            if (end < CODE_ROOM) {
                code[end] = word;
                end++;
            }
        }

        int op(int at) {
            return at >= 0 && at < end ? code[at] : 0;
        }

        void patch(int at, int word) {
            if (at >= 0 && at < end) {
                code[at] = word;
            }
        }

        int firstOf(int body) {
            return body + HEAD + CELL * op(body + BODY_CELLS);
        }

        /** How far the next part of the code is, bodies of blocks and slots being walked through. */
        int width(int at) {
            switch (op(at)) {
                case DO_WHOLE: case DO_SEND: case DO_RESEND: return 2;
                case DO_STRING: case DO_CELL: case DO_CHANGE: case DO_DIRECT: return 3;
                case DO_BLOCK: case DO_SLOT: return firstOf(at + 1) - at;
                case DO_METHOD: return op(at + 1 + BODY_END) - at;
                case DO_OBJECT: return 2 + 3 * op(at + 1);
                default: return 1;
            }
        }

        boolean sends(int body, int s) {
            int at = firstOf(body);
            int last = op(body + BODY_END);
            for (int k = 0; k < CODE_ROOM && at < last; k++) {
                int act = op(at);
                boolean plain = act == DO_SEND || act == DO_RESEND;
                if (plain && op(at + 1) == s || act == DO_DIRECT && op(at + 2) == s) {
                    return true;
                }
                at += Math.max(1, width(at));
            }
            return false;
        }
    }

    /** The words of a text; each goes behind the letters too, blanks and notes as one blank. */
    private static final class Words {
        final Program program;
        final Bytes tape;
        private final int[] kinds = new int[TEXT_WORDS + 2];
        private final int[] places = new int[TEXT_WORDS + 2];
        private final int[] sizes = new int[TEXT_WORDS + 2];
        private final int[] marks = new int[TEXT_WORDS + 2];
        private final int[] tells = new int[TEXT_WORDS + 2];
        private int length;
        private int pos;
        private int number;
        int at;

        Words(Program program, Bytes tape) {
            this.program = program;
            this.tape = tape;
        }

        /** Finds all words up to the end, or up to what is none, or up to one too many. */
        void split(int n) {
            length = n;
            pos = 0;
            at = 0;
            int kind = NAME;
            for (int k = 0; k < kinds.length && kind != END && kind != BAD; k++) {
                int from = pos;
                skipBlanks();
                if (pos > from) {
                    program.letters.put(' ');
                }
                int place = pos;
                int mark = program.letters.size;
                kind = scan(byteAt(pos));
                program.letters.putPart(tape, place, pos - place);
                kinds[k] = kind;
                places[k] = place;
                sizes[k] = pos - place;
                marks[k] = mark;
                int named = nameSize(kind, pos - place);
                int other = kind == NUMBER ? number : -1;
                tells[k] = named > 0 ? program.symbol(program.letters, mark, named) : other;
            }
        }

        /** How many bytes of a word are a name or sign of its own. */
        private int nameSize(int kind, int size) {
            if (kind == NAME || kind == ACT || kind == SIGN && size <= SELECTOR) {
                return size;
            }
            return kind == TO ? size - 1 : 0;
        }

        void advance() {
            at = Math.min(at + 1, kinds.length - 1);
        }

        int kind() {
            return kinds[at];
        }

        int place() {
            return places[at];
        }

        int size() {
            return sizes[at];
        }

        int mark() {
            return marks[at];
        }

        int told() {
            return tells[at];
        }

        private int byteAt(int i) {
            return i >= 0 && i < length && i < tape.size ? tape.row[i] & 255 : 0;
        }

        private void skipBlanks() {
            for (int k = 0; k <= TAPE && pos < length; k++) {
                int c = byteAt(pos);
                if (c == '"') {
                    int close = pos + 1;
                    while (close < length && byteAt(close) != '"') {
                        close++;
                    }
                    if (close >= length) {
                        return;
                    }
                    pos = close;
                } else if (c != 9 && c != 10 && c != 13 && c != ' ') {
                    return;
                }
                pos++;
            }
        }

        private int scan(int c) {
            if (pos >= length) {
                return END;
            }
            if (c >= 'a' && c <= 'z') {
                return scanName();
            }
            if (c >= 'A' && c <= 'Z') {
                pos = nameEnd();
                return colon() ? MORE : BAD;
            }
            if (c >= '0' && c <= '9') {
                return scanNumber();
            }
            if (c == '_' && byteAt(pos + 1) >= 'A' && byteAt(pos + 1) <= 'Z') {
                pos = nameEnd();
                return colon() ? ACTKEY : ACT;
            }
            if (c == '\'') {
                return scanString();
            }
            if (SIGNS.indexOf((char) c) >= 0) {
                while (pos < length && SIGNS.indexOf((char) byteAt(pos)) >= 0) {
                    pos++;
                }
                return SIGN;
            }
            pos++;
            return SINGLES.indexOf((char) c) >= 0 ? c : BAD;
        }

        private int nameEnd() {
            int e = pos;
            while (e < length && e - pos < 16 && isNameByte(byteAt(e))) {
                e++;
            }
            return e;
        }

        private boolean colon() {
            if (byteAt(pos) != ':') {
                return false;
            }
            pos++;
            return true;
        }

        private int scanName() {
            int from = pos;
            pos = nameEnd();
            boolean self = isTold("self", from);
            boolean resend = isTold("resend", from);
            if (colon()) {
                return self || resend ? BAD : KEY;
            }
            if (byteAt(pos) == '.' && byteAt(pos + 1) >= 'a' && byteAt(pos + 1) <= 'z') {
                pos++;
                return self ? BAD : TO;
            }
            if (self) {
                return SELF;
            }
            return resend ? BAD : NAME;
        }

        private boolean isTold(String word, int from) {
            boolean like = pos - from == word.length();
            for (int i = 0; like && i < word.length(); i++) {
                like = byteAt(from + i) == word.charAt(i);
            }
            return like;
        }

        private int scanNumber() {
            long told = 0;
            while (pos < length && byteAt(pos) >= '0' && byteAt(pos) <= '9') {
                if (told <= Integer.MAX_VALUE) {
                    told = told * 10 + byteAt(pos) - '0';
                }
                pos++;
            }
            number = (int) told;
            return told > Integer.MAX_VALUE || isNameByte(byteAt(pos)) ? BAD : NUMBER;
        }

        private int scanString() {
            pos++;
            for (int n = 0; n <= ROW && pos < length; n++) {
                int c = byteAt(pos);
                if (c == '\'') {
                    pos++;
                    return QUOTED;
                }
                if (c == '\\') {
                    pos++;
                    int d = byteAt(pos);
                    if (d != 'n' && d != '\'' && d != '\\') {
                        return BAD;
                    }
                } else if (c < 32 || c > 126) {
                    return BAD;
                }
                pos++;
            }
            return BAD;
        }
    }

    /** Reads a text, word by word, and puts its code into the program. */
    private static final class Reader {
        final Program program;
        final Words words;
        int faultNumber;
        int faultPlace = -1;
        int allWords;
        private int allLetters;
        private int textLetters;
        private int open;
        private final Bytes selectors = new Bytes((OPENS + 2) * (SELECTOR + 20));
        private final int[] scope = new int[3 * OPENS];
        private int scopes;
        private final int[] slotName = new int[SLOTS * (OPENS + 1)];
        private final int[] slotKind = new int[SLOTS * (OPENS + 1)];
        private final int[] slotBody = new int[SLOTS * (OPENS + 1)];
        private int slotTop;
        private int cellHops;
        private int cellIndex;
        private boolean cellIsArgument;

        Reader(Program program, Bytes tape) {
            this.program = program;
            this.words = new Words(program, tape);
        }

        void forget() {
            allWords = 0;
            allLetters = 0;
        }

        /** The body of the text that the first n bytes of the tape are, or -1 with a fault. */
        int read(int n) {
            int symbols = program.symbols;
            int names = program.names.size;
            int end = program.end;
            int letters = program.letters.size;
            faultNumber = 0;
            faultPlace = -1;
            textLetters = 0;
            open = 0;
            scopes = 0;
            slotTop = 0;
            selectors.size = 0;
            words.split(n);
            int body = beginBody(TEXT_BODY);
            inner(body, END);
            endBody(body);
            // Without a fault the word at hand is the end, ahead of which all words are.
            if (allWords + words.at > ALL_WORDS || allLetters + textLetters > ALL_LETTERS) {
                fail(CODE);
            }
            if (faultNumber != 0) {
                // Behind a fault no word was taken: the one at hand is the one of the fault.
                faultPlace = words.place();
                program.cutBack(symbols, names, end, letters);
                return -1;
            }
            allWords += words.at;
            allLetters += textLetters;
            return body;
        }

        private void fail(int number) {
            if (faultNumber != 0) {
                return;
            }
            faultNumber = number > ROOM && words.at >= TEXT_WORDS && number != CODE ? ROOM : number;
        }

        private void next() {
            if (words.at >= TEXT_WORDS) {
                fail(ROOM);
            }
            if (faultNumber == 0) {
                words.advance();
            }
        }

        private boolean at(int kind) {
            return faultNumber == 0 && words.kind() == kind;
        }

        private boolean take(int kind) {
            if (!at(kind)) {
                fail(SYNTAX);
                return false;
            }
            next();
            return true;
        }

        private boolean atSign(int sign) {
            return faultNumber == 0 && words.kind() == SIGN && words.told() == sign;
        }

        private boolean takeSign(int sign) {
            boolean there = atSign(sign);
            if (there) {
                next();
            }
            return there;
        }

        private void takeOpening() {
            if (open >= OPENS) {
                fail(ROOM);
            }
            open++;
            next();
        }

        private int beginBody(int kind) {
            int body = program.end;
            program.emit(kind);
            for (int i = 1; i < HEAD; i++) {
                program.emit(0);
            }
            if (scopes < scope.length) {
                scope[scopes] = body;
                scopes++;
            }
            return body;
        }

        private void endBody(int body) {
            program.emit(DO_THROUGH);
            program.patch(body + BODY_END, program.end);
            scopes = Math.max(0, scopes - 1);
        }

        private void inner(int body, int closer) {
            if (at('|')) {
                next();
                for (int k = 0; k <= TEXT_WORDS && faultNumber == 0 && !at('|'); k++) {
                    cell(body);
                    if (!at('.') && !at('|')) {
                        fail(SYNTAX);
                    }
                    if (at('.')) {
                        next();
                    }
                }
                next();
            }
            if (at(closer)) {
                if (program.op(body) == METHOD_BODY) {
                    fail(SYNTAX);
                }
                program.emit(DO_NIL);
                return;
            }
            statement();
            for (int k = 0; k <= TEXT_WORDS && at('.'); k++) {
                next();
                if (!at(closer)) {
                    program.emit(DO_POP);
                    statement();
                }
            }
            if (!at(closer)) {
                fail(SYNTAX);
            }
        }

        private void cell(int body) {
            boolean argument = at(':');
            if (argument) {
                boolean behindOthers = program.op(body + BODY_CELLS) > program.op(body + BODY_ARGUMENTS);
                if (program.op(body) != BLOCK_BODY || behindOthers) {
                    fail(TWICE);
                }
                next();
            }
            if (!newCell(body, argument) || argument || !takeSign(ARROW)) {
                return;
            }
            boolean minus = takeSign(MINUS);
            int told = words.told();
            if (take(NUMBER)) {
                program.patch(program.end - 2, 1);
                program.patch(program.end - 1, minus ? -told : told);
            }
        }

        private boolean newCell(int body, boolean argument) {
            if (!at(NAME)) {
                fail(SYNTAX);
                return false;
            }
            int cells = program.op(body + BODY_CELLS);
            int arguments = program.op(body + BODY_ARGUMENTS);
            if (cells >= CELLS || argument && arguments >= ARGUMENTS) {
                fail(ROOM);
            }
            int name = words.told();
            if (cellIn(body, name) >= 0) {
                fail(TWICE);
            }
            program.emit(name);
            program.emit(0);
            program.emit(0);
            program.patch(body + BODY_CELLS, cells + 1);
            if (argument) {
                program.patch(body + BODY_ARGUMENTS, arguments + 1);
            }
            next();
            return faultNumber == 0;
        }

        private int cellIn(int body, int name) {
            int cells = program.op(body + BODY_CELLS);
            for (int i = 0; i < cells; i++) {
                if (program.op(body + HEAD + CELL * i) == name) {
                    return i;
                }
            }
            return -1;
        }

        /** Whether this name is a cell of the body at hand or one around it: where it is. */
        private boolean seeCell(int name) {
            cellHops = 0;
            for (int k = scopes - 1; k >= 0 && k < scope.length && name >= 0; k--) {
                int body = scope[k];
                cellIndex = cellIn(body, name);
                if (cellIndex >= 0) {
                    cellIsArgument = cellIndex < program.op(body + BODY_ARGUMENTS);
                    return true;
                }
                if (program.op(body) != BLOCK_BODY) {
                    return false;
                }
                cellHops++;
            }
            return false;
        }

        private void statement() {
            boolean caret = at('^');
            if (caret) {
                next();
            }
            expression();
            if (caret) {
                program.emit(DO_CARET);
            }
        }

        private void expression() {
            if (at(KEY) || at(ACTKEY)) {
                program.emit(DO_SELF);
                message(NO_TO, true);
                return;
            }
            int to = NO_TO;
            if (at(TO)) {
                to = takeTo();
                if (at(KEY)) {
                    program.emit(DO_SELF);
                    message(to, false);
                    return;
                }
            }
            row(to);
            if (at(KEY) || at(ACTKEY)) {
                message(NO_TO, false);
            }
        }

        private int takeTo() {
            int name = words.told();
            next();
            return name == RESEND_NAME ? RESEND : name;
        }

        private void emitSend(int to, int symbol) {
            if (to == NO_TO) {
                program.emit(DO_SEND);
            } else if (to == RESEND) {
                program.emit(DO_RESEND);
            } else {
                program.emit(DO_DIRECT);
                program.emit(to);
            }
            program.emit(symbol);
        }

        /** Puts a word of a selector behind its others; false, and a fault, without room for it. */
        private boolean addPart(int from, int parts) {
            if (parts > ARGUMENTS || selectors.size - from + words.size() > SELECTOR) {
                fail(ROOM);
                return false;
            }
            selectors.putPart(program.letters, words.mark(), words.size());
            return true;
        }

        private void message(int to, boolean toNothing) {
            int from = selectors.size;
            boolean change = toNothing && at(KEY)
                && seeCell(program.known(program.letters, words.mark(), words.size() - 1)) && !cellIsArgument;
            int hops = cellHops;
            int index = cellIndex;
            addPart(from, 1);
            takeOpening();
            expression();
            int parts = 1;
            for (int k = 0; k <= ARGUMENTS && at(MORE); k++) {
                parts++;
                if (addPart(from, parts)) {
                    next();
                    expression();
                }
            }
            open--;
            if (change && parts == 1) {
                program.emit(DO_CHANGE);
                program.emit(hops);
                program.emit(index);
            } else if (faultNumber == 0) {
                emitSend(to, program.symbol(selectors, from, selectors.size - from));
            }
            selectors.size = from;
        }

        private void row(int to) {
            unit(to);
            int first = -1;
            for (int k = 0; k <= TEXT_WORDS && at(SIGN); k++) {
                if (words.size() > SELECTOR) {
                    fail(ROOM);
                    return;
                }
                int sign = words.told();
                if (first >= 0 && sign != first) {
                    fail(UNLIKE);
                }
                first = sign;
                next();
                unit(NO_TO);
                emitSend(NO_TO, sign);
            }
        }

        private void unit(int to) {
            if (to == NO_TO) {
                primary();
            } else {
                directed(to);
            }
            for (int k = 0; k <= TEXT_WORDS && (at(NAME) || at(ACT)); k++) {
                emitSend(NO_TO, words.told());
                next();
            }
        }

        private void directed(int to) {
            if (!at(NAME)) {
                fail(SYNTAX);
                return;
            }
            program.emit(DO_SELF);
            emitSend(to, words.told());
            next();
        }

        private void primary() {
            if (faultNumber != 0) {
                return;
            }
            switch (words.kind()) {
                case NUMBER: case SIGN: number(); break;
                case QUOTED: quoted(); break;
                case NAME: case ACT: name(); break;
                case SELF:
                    program.emit(DO_SELF);
                    next();
                    break;
                case TO: directed(takeTo()); break;
                case '(':
                    takeOpening();
                    expression();
                    take(')');
                    open--;
                    break;
                case '[': block(); break;
                case '{': braces(); break;
                default: fail(SYNTAX); break;
            }
        }

        private void number() {
            boolean minus = takeSign(MINUS);
            int told = words.told();
            if (take(NUMBER)) {
                program.emit(DO_WHOLE);
                program.emit(minus ? -told : told);
            }
        }

        private void quoted() {
            program.emit(DO_STRING);
            program.emit(words.mark() + 1);
            program.emit(words.size() - 2);
            next();
        }

        private void name() {
            int symbol = words.told();
            if (at(NAME) && seeCell(symbol)) {
                program.emit(DO_CELL);
                program.emit(cellHops);
                program.emit(cellIndex);
            } else {
                program.emit(DO_SELF);
                emitSend(NO_TO, symbol);
            }
            next();
        }

        private void block() {
            takeOpening();
            program.emit(DO_BLOCK);
            int body = beginBody(BLOCK_BODY);
            inner(body, ']');
            endBody(body);
            take(']');
            open--;
        }

        private void braces() {
            int from = slotTop;
            takeOpening();
            for (int k = 0; k <= SLOTS && faultNumber == 0 && !at('}'); k++) {
                aSlot(from);
                if (!at('.') && !at('}')) {
                    fail(SYNTAX);
                }
                if (at('.')) {
                    next();
                }
            }
            take('}');
            open--;
            program.emit(DO_OBJECT);
            program.emit(slotTop - from);
            for (int i = from; i < slotTop; i++) {
                program.emit(slotName[i]);
                program.emit(slotKind[i]);
                program.emit(slotBody[i]);
            }
            slotTop = from;
        }

        private void aSlot(int from) {
            if (!at(NAME) && !at(SIGN) && !at(KEY)) {
                fail(SYNTAX);
            } else if (slotTop - from >= SLOTS) {
                fail(ROOM);
            } else if (at(NAME)) {
                namedSlot(from);
            } else {
                methodSlot(from);
            }
        }

        private void namedSlot(int from) {
            int name = words.told();
            int mark = words.mark();
            next();
            int parent = takeSign(STAR) ? PARENT : 0;
            if (atSign(EQUALS)) {
                newSlot(from, name, CONSTANT + parent);
                next();
                if (parent == 0 && at('(')) {
                    program.emit(DO_METHOD);
                    method(beginBody(METHOD_BODY), mark);
                } else {
                    slotValue();
                }
            } else if (atSign(ARROW)) {
                newSlot(from, name, ASSIGNABLE + parent);
                next();
                slotValue();
            } else if (at('.') || at('}')) {
                newSlot(from, name, ASSIGNABLE + parent);
                program.emit(DO_NIL);
            } else {
                fail(SYNTAX);
            }
        }

        private void methodSlot(int from) {
            int mark = words.mark();
            int start = selectors.size;
            boolean keys = at(KEY);
            program.emit(DO_METHOD);
            int body = beginBody(METHOD_BODY);
            int parts = 1;
            if (addPart(start, parts)) {
                next();
            }
            newCell(body, true);
            for (int k = 0; k <= ARGUMENTS && keys && at(MORE); k++) {
                parts++;
                if (addPart(start, parts)) {
                    next();
                }
                newCell(body, true);
            }
            if (!atSign(EQUALS)) {
                fail(SYNTAX);
                return;
            }
            newSlot(from, program.symbol(selectors, start, selectors.size - start), CONSTANT);
            selectors.size = start;
            next();
            if (!at('(')) {
                fail(SYNTAX);
                return;
            }
            method(body, mark);
        }

        private void newSlot(int from, int name, int kind) {
            boolean assignable = (kind & 3) == ASSIGNABLE;
            for (int i = from; i < slotTop; i++) {
                int other = slotName[i];
                boolean setter = (slotKind[i] & 3) == ASSIGNABLE && program.baseOf(name) == other;
                if (other == name || setter || assignable && program.baseOf(other) == name) {
                    fail(TWICE);
                    return;
                }
            }
            if (slotTop < slotName.length) {
                slotName[slotTop] = name;
                slotKind[slotTop] = kind;
                slotBody[slotTop] = 0;
                slotTop++;
            }
        }

        private void method(int body, int mark) {
            int slot = slotTop - 1;
            if (slot >= 0 && slot < slotKind.length) {
                slotKind[slot] = METHOD;
                slotBody[slot] = body;
            }
            takeOpening();
            inner(body, ')');
            endBody(body);
            int told = words.mark() + words.size() - mark;
            program.patch(body + BODY_LETTERS, mark);
            program.patch(body + BODY_LENGTH, told);
            textLetters += told;
            take(')');
            open--;
        }

        /** A number or a string alone gives itself; every other e of a slot is a body. */
        private void slotValue() {
            int start = program.end;
            int before = words.at;
            boolean minus = atSign(MINUS);
            boolean literal = at(NUMBER) || at(QUOTED);
            program.emit(DO_SLOT);
            int body = beginBody(SLOT_BODY);
            expression();
            endBody(body);
            int told = words.at - before;
            if (literal && told == 1 || minus && told == 2) {
                int width = program.width(body + HEAD);
                for (int i = 0; i < width; i++) {
                    program.patch(start + i, program.op(body + HEAD + i));
                }
                program.end = start + width;
            }
        }
    }

    /** The objects: each has a row for slots' values, bytes, elements or cells. */
    private static final class Heap {
        final int limit;
        int live;
        private int low;
        final int[] sort;
        final int[] size;
        final boolean[] held;
        final long[] self;
        final int[] holder;
        final int[] home;
        final int[] body;
        private final long[] data;
        private final int[] selectors;
        final int[] kinds;
        final int[] nextString;
        final int[] strings = new int[256];

        Heap(int limit) {
            this.limit = limit;
            sort = new int[limit];
            size = new int[limit];
            held = new boolean[limit];
            self = new long[limit];
            holder = new int[limit];
            home = new int[limit];
            body = new int[limit];
            data = new long[limit * ROW];
            selectors = new int[limit * SLOTS];
            kinds = new int[limit * SLOTS];
            nextString = new int[limit];
            for (int o = 0; o < limit; o++) {
                sort[o] = FREE;
            }
            for (int i = 0; i < strings.length; i++) {
                strings[i] = -1;
            }
        }

        /** A new object of this sort, or -1 if there are as many as may live. */
        int claim(int newSort) {
            int o = low;
            while (o < limit && sort[o] != FREE) {
                o++;
            }
            if (o >= limit) {
                return -1;
            }
            low = o + 1;
            live++;
            sort[o] = newSort;
            size[o] = 0;
            held[o] = false;
            home[o] = -1;
            return o;
        }

        void free(int o) {
            if (o >= 0 && o < limit && sort[o] != FREE) {
                sort[o] = FREE;
                live--;
                low = Math.min(low, o);
            }
        }

        boolean lives(long v) {
            return v >= 0 && v < limit && sort[(int) v] != FREE;
        }

        boolean isSort(long v, int wanted) {
            return v >= 0 && v < limit && sort[(int) v] == wanted;
        }

        boolean isValue(long v) {
            return lives(v) || v >= LEAST && v <= MOST;
        }

        int startOf(long v) {
            if (isWhole(v)) {
                return WHOLES;
            }
            if (!lives(v)) {
                return NIL;
            }
            switch (sort[(int) v]) {
                case PLAIN: return (int) v;
                case STRING: return STRINGS;
                case VECTOR: return VECTORS;
                case BLOCK: return BLOCKS;
                case PROCESS: return PROCESSES;
                case SEMAPHORE: return SEMAPHORES;
                default: return NIL;
            }
        }

        long at(int o, int i) {
            return o >= 0 && o < limit && i >= 0 && i < ROW ? data[o * ROW + i] : NIL;
        }

        void set(int o, int i, long v) {
            if (o >= 0 && o < limit && i >= 0 && i < ROW) {
                data[o * ROW + i] = v;
            }
        }

        long selfOf(int o) {
            return lives(o) ? self[o] : NIL;
        }

        int holderOf(int o) {
            return lives(o) ? holder[o] : NIL;
        }

        int homeOf(int o) {
            return lives(o) ? home[o] : -1;
        }

        int bodyOf(int o) {
            return lives(o) ? body[o] : -1;
        }

        int sizeOf(long v) {
            return lives(v) ? size[(int) v] : 0;
        }

        boolean hasSlot(int o, int i) {
            return o >= 0 && o < limit && sort[o] == PLAIN && i >= 0 && i < size[o] && i < SLOTS;
        }

        int kind(int o, int i) {
            return hasSlot(o, i) ? kinds[o * SLOTS + i] : -1;
        }

        int named(int o, int i) {
            return hasSlot(o, i) ? selectors[o * SLOTS + i] : -1;
        }

        /** Whether slot i has a value (a method is none). */
        boolean hasValue(int o, int i) {
            return hasSlot(o, i) && kinds[o * SLOTS + i] != METHOD;
        }

        void addSlot(int o, int name, int kind, long v) {
            if (isSort(o, PLAIN) && size[o] < SLOTS) {
                int i = size[o];
                size[o] = i + 1;
                selectors[o * SLOTS + i] = name;
                kinds[o * SLOTS + i] = kind;
                set(o, i, v);
            }
        }

        void copySlots(int to, int from) {
            if (isSort(to, PLAIN) && isSort(from, PLAIN) && to != from) {
                size[to] = 0;
                for (int i = 0; i < size[from]; i++) {
                    addSlot(to, named(from, i), kind(from, i), at(from, i));
                }
            }
        }

        int slotNamed(int o, int name) {
            int n = o >= 0 && o < limit && sort[o] == PLAIN ? Math.min(SLOTS, size[o]) : 0;
            for (int i = 0; i < n; i++) {
                if (selectors[o * SLOTS + i] == name) {
                    return i;
                }
            }
            return -1;
        }

        /** The slot of o that is for this selector; base is x if that is x: , else -1. */
        int slotFor(int o, int name, int base) {
            int i = name >= 0 ? slotNamed(o, name) : -1;
            if (i >= 0 || base < 0) {
                return i;
            }
            i = slotNamed(o, base);
            return i >= 0 && (kinds[o * SLOTS + i] & 3) == ASSIGNABLE ? i : -1;
        }

        /** Puts a string where those of like bytes are looked for. */
        void chain(int o) {
            int n = o >= 0 && o < limit && sort[o] == STRING ? Math.min(ROW, size[o]) : -1;
            int mixed = n;
            for (int i = 0; i < n; i++) {
                mixed = mixed * 31 + (int) data[o * ROW + i];
            }
            if (n >= 0) {
                nextString[o] = strings[mixed & 255];
                strings[mixed & 255] = o;
            }
        }
    }

    /** What a process that has not ended is at: its activations, and what it is working out. */
    private static final class Task {
        final int index;
        int object = -1;
        int state;
        int units;
        int depth;
        int top;
        int body;
        int block;
        long pending;
        int error;
        int reason;
        int erredArguments;
        long erredTo;
        long told;
        int waitsFor;
        int waitOrder;
        final Bytes erredName = new Bytes(64);
        private final int[] activations = new int[DEEPEST];
        private final int[] places = new int[DEEPEST];
        private final int[] bases = new int[DEEPEST];
        private final long[] stack = new long[STACK];

        Task(int index) {
            this.index = index;
        }

        void begin(int newObject, int newBody, int newBlock) {
            object = newObject;
            state = READY;
            units = 0;
            depth = 0;
            top = 0;
            body = newBody;
            block = newBlock;
            pending = NIL;
            waitsFor = -1;
        }

        void push(long v) {
            if (top < STACK) {
                stack[top] = v;
                top++;
            }
        }

        /** The value that stands k below the top. */
        long peek(int k) {
            int i = top - 1 - k;
            return i >= 0 && i < STACK ? stack[i] : NIL;
        }

        long stacked(int i) {
            return i >= 0 && i < top ? stack[i] : NIL;
        }

        void drop(int n) {
            top = Math.max(0, top - n);
        }

        long pop() {
            long v = peek(0);
            drop(1);
            return v;
        }

        int activation(int k) {
            return k >= 0 && k < depth ? activations[k] : -1;
        }

        int latest() {
            return activation(depth - 1);
        }

        int place() {
            return depth > 0 && depth <= DEEPEST ? places[depth - 1] : -1;
        }

        void goTo(int place) {
            if (depth > 0 && depth <= DEEPEST) {
                places[depth - 1] = place;
            }
        }

        void enter(int o, int place) {
            if (depth < DEEPEST) {
                activations[depth] = o;
                places[depth] = place;
                bases[depth] = top;
                depth++;
            }
        }

        /** What the latest activation was working out is left. */
        void clear() {
            if (depth > 0 && depth <= DEEPEST) {
                top = bases[depth - 1];
            }
        }

        void leave() {
            clear();
            depth = Math.max(0, depth - 1);
        }
    }

    /** The processes that have not ended, and the row of those that are ready. */
    private static final class Tasks {
        final Heap heap;
        final Task[] all = new Task[TASKS];
        private final int[] row = new int[TASKS];
        int ready;
        int open;
        int inOneGo;
        private int orders;

        Tasks(Heap heap) {
            this.heap = heap;
            for (int i = 0; i < TASKS; i++) {
                all[i] = new Task(i);
            }
        }

        Task first() {
            return all[row[0]];
        }

        /** Which task process p is, or -1 for one that has ended and for what is no process. */
        int indexOf(int p) {
            int i = heap.isSort(p, PROCESS) ? heap.homeOf(p) : -1;
            return i < TASKS ? i : -1;
        }

        int placeOf(Task task) {
            for (int i = 0; i < ready && i < TASKS; i++) {
                if (all[row[i]] == task) {
                    return i;
                }
            }
            return -1;
        }

        void begin(int o, int body, int block) {
            for (int i = 0; i < TASKS; i++) {
                if (all[i].object < 0) {
                    all[i].begin(o, body, block);
                    heap.home[o] = i;
                    // Its answer: what another object with this number had there is no longer reached.
                    heap.set(o, 0, NIL);
                    open++;
                    join(all[i]);
                    return;
                }
            }
        }

        private void join(Task task) {
            if (ready < TASKS) {
                task.state = READY;
                row[ready] = task.index;
                ready++;
            }
        }

        void leaveRow(Task task, int state) {
            int at = placeOf(task);
            task.state = state;
            if (at < 0) {
                return;
            }
            for (int i = at; i < ready - 1; i++) {
                row[i] = row[i + 1];
            }
            ready--;
            if (at == 0) {
                inOneGo = 0;
            }
        }

        void toLast(Task task) {
            leaveRow(task, READY);
            join(task);
        }

        void waitFor(Task task, int o) {
            leaveRow(task, WAITS);
            task.waitsFor = o;
            task.waitOrder = orders;
            orders++;
        }

        /** The one that waits longest for object o goes on with a value; false if none does. */
        boolean wakeFor(int o, long v) {
            Task longest = all[0];
            boolean any = false;
            for (int i = 0; i < TASKS; i++) {
                Task task = all[i];
                boolean waits = task.object >= 0 && task.state == WAITS && task.waitsFor == o;
                if (waits && (!any || task.waitOrder - longest.waitOrder < 0)) {
                    longest = task;
                    any = true;
                }
            }
            if (any) {
                longest.push(v);
                longest.waitsFor = -1;
                join(longest);
            }
            return any;
        }

        void end(Task task, long v) {
            int o = task.object;
            leaveRow(task, ENDED);
            heap.set(o, 0, v);
            heap.set(o, 1, task.units);
            if (heap.lives(o)) {
                heap.home[o] = -1;
            }
            task.object = -1;
            open--;
            boolean woken = true;
            for (int k = 0; k < TASKS && woken; k++) {
                woken = wakeFor(o, v);
            }
        }

        void goOn(Task task, long v) {
            if (task.depth == 0) {
                task.pending = v;
            } else {
                task.push(v);
            }
            join(task);
        }
    }

    /** Makes objects, sweeps those that nothing reaches, and keeps changes to be undone. */
    private static final class Keeper {
        final Program program;
        final Heap heap;
        final Tasks tasks;
        final Bytes text = new Bytes(4 * ROW);
        int sweeps;
        private final boolean[] marked;
        private final int[] reached;
        private int top;
        int kept;
        private int oldest;
        private final int[] changed = new int[2 * CHANGES];
        private final int[] sizes = new int[2 * CHANGES];
        private final int[] names = new int[2 * CHANGES * SLOTS];
        private final int[] kinds = new int[2 * CHANGES * SLOTS];
        private final long[] values = new long[2 * CHANGES * SLOTS];
        private final int[] mergedName = new int[2 * SLOTS];
        private final int[] mergedKind = new int[2 * SLOTS];
        private final long[] mergedValue = new long[2 * SLOTS];
        private int merged;

        Keeper(Program program, Heap heap, Tasks tasks) {
            this.program = program;
            this.heap = heap;
            this.tasks = tasks;
            marked = new boolean[heap.limit];
            reached = new int[heap.limit];
        }

        void makeAlways() {
            for (int o = 0; o < ALWAYS; o++) {
                heap.claim(PLAIN);
            }
            for (int o = 0; o < ALWAYS; o++) {
                heap.addSlot(LOBBY, program.wordSymbol(LOBBY_NAMES, o), CONSTANT, o);
            }
        }

        int make(int sort) {
            if (heap.live >= heap.limit) {
                markRoots();
                markTasks();
                markInner();
                freeRest();
            }
            return heap.claim(sort);
        }

        /** The string of the bytes in text: one that lives, else a new one, or -1 without room. */
        int string() {
            int n = Math.min(ROW, text.size);
            int o = heap.strings[text.mix(0, n)];
            for (int k = 0; k < heap.limit && heap.lives(o); k++) {
                if (isText(o, n)) {
                    return o;
                }
                o = heap.nextString[o];
            }
            o = make(STRING);
            if (o < 0) {
                return -1;
            }
            heap.size[o] = n;
            for (int i = 0; i < n; i++) {
                heap.set(o, i, text.at(i));
            }
            heap.chain(o);
            return o;
        }

        private boolean isText(int o, int n) {
            if (heap.sizeOf(o) != n) {
                return false;
            }
            for (int i = 0; i < n; i++) {
                if (heap.at(o, i) != text.at(i)) {
                    return false;
                }
            }
            return true;
        }

        private void reach(long v) {
            if (v >= 0 && v < heap.limit && !marked[(int) v] && top < reached.length) {
                marked[(int) v] = true;
                reached[top] = (int) v;
                top++;
            }
        }

        void markRoots() {
            top = 0;
            for (int o = 0; o < heap.limit; o++) {
                marked[o] = false;
            }
            for (int o = 0; o < heap.limit; o++) {
                if (o < ALWAYS || heap.held[o] && heap.sort[o] != FREE) {
                    reach(o);
                }
            }
            for (int k = 0; k < 2 * kept; k++) {
                int row = (2 * oldest + k) % (2 * CHANGES);
                reach(changed[row]);
                for (int i = 0; i < sizes[row] && changed[row] >= 0; i++) {
                    if (kinds[row * SLOTS + i] != METHOD) {
                        reach(values[row * SLOTS + i]);
                    }
                }
            }
        }

        /** Processes that have not ended are roots, too: so what they are at is marked with them. */
        void markTasks() {
            for (int k = 0; k < TASKS; k++) {
                Task task = tasks.all[k];
                if (task.object < 0) {
                    continue;
                }
                reach(task.object);
                reach(task.pending);
                if (task.state == STOPPED) {
                    reach(task.erredTo);
                    reach(task.told);
                } else if (task.depth == 0) {
                    reach(task.block);
                }
                for (int i = 0; i < task.depth; i++) {
                    reach(task.activation(i));
                }
                for (int i = 0; i < task.top; i++) {
                    reach(task.stacked(i));
                }
            }
        }

        void markInner() {
            for (int k = 0; k < heap.limit && top > 0; k++) {
                top--;
                int o = reached[top];
                int sort = heap.sort[o];
                if (sort == BLOCK || sort == ACTIVATION) {
                    reach(heap.home[o]);
                }
                if (sort == ACTIVATION) {
                    reach(heap.self[o]);
                    reach(heap.holder[o]);
                }
                if (sort == PROCESS) {
                    reach(heap.at(o, 0));
                }
                boolean row = sort == VECTOR || sort == ACTIVATION;
                int n = row ? heap.size[o] : sort == PLAIN ? Math.min(SLOTS, heap.size[o]) : 0;
                for (int i = 0; i < n; i++) {
                    if (row || heap.kinds[o * SLOTS + i] != METHOD) {
                        reach(heap.at(o, i));
                    }
                }
            }
        }

        int freeRest() {
            int went = 0;
            for (int i = 0; i < heap.strings.length; i++) {
                heap.strings[i] = -1;
            }
            for (int o = 0; o < heap.limit; o++) {
                if (heap.sort[o] != FREE && !marked[o]) {
                    heap.free(o);
                    went++;
                } else {
                    heap.chain(o);
                }
            }
            for (int i = 0; i < TASKS; i++) {
                // The number may be another's soon: who waits for what went waits for nothing.
                if (!heap.lives(tasks.all[i].waitsFor)) {
                    tasks.all[i].waitsFor = -1;
                }
            }
            sweeps++;
            return went;
        }

        void forget() {
            kept = 0;
        }

        /** The slots of a, and of b if that is none of -1, are kept as they are now. */
        void keep(int a, int b) {
            int at = (oldest + kept) % CHANGES;
            if (kept < CHANGES) {
                kept++;
            } else {
                oldest = (oldest + 1) % CHANGES;
            }
            keepSlots(2 * at, a);
            keepSlots(2 * at + 1, b);
        }

        private void keepSlots(int row, int o) {
            changed[row] = o;
            sizes[row] = heap.sizeOf(o);
            for (int i = 0; i < sizes[row]; i++) {
                names[row * SLOTS + i] = heap.named(o, i);
                kinds[row * SLOTS + i] = heap.kind(o, i);
                values[row * SLOTS + i] = heap.at(o, i);
            }
        }

        boolean takeBack() {
            if (kept == 0) {
                return false;
            }
            kept--;
            int at = (oldest + kept) % CHANGES;
            giveSlots(2 * at, changed[2 * at]);
            giveSlots(2 * at + 1, changed[2 * at + 1]);
            return true;
        }

        private void giveSlots(int row, int o) {
            if (!heap.isSort(o, PLAIN)) {
                return;
            }
            heap.size[o] = 0;
            for (int i = 0; i < sizes[row]; i++) {
                heap.addSlot(o, names[row * SLOTS + i], kinds[row * SLOTS + i], values[row * SLOTS + i]);
            }
        }

        /** Exchanges the slots of the two of which they have just been kept. */
        void exchange() {
            int at = (oldest + kept + CHANGES - 1) % CHANGES;
            giveSlots(2 * at, changed[2 * at + 1]);
            giveSlots(2 * at + 1, changed[2 * at]);
        }

        /** Works out the slots of o without one, to be stored. */
        void mergeWithout(int o, int slot) {
            loadMerged(o);
            removeMerged(slot);
        }

        /** Works out the slots of o and those that come from another, to be stored; false if too many. */
        boolean mergeWith(int o, int from) {
            loadMerged(o);
            int n = heap.sizeOf(from);
            for (int i = 0; i < n; i++) {
                mergeSlot(heap.named(from, i), heap.kind(from, i), heap.at(from, i));
            }
            return merged <= SLOTS;
        }

        private void mergeSlot(int name, int kind, long v) {
            int at = -1;
            for (int i = merged - 1; i >= 0; i--) {
                boolean setter = (kind & 3) == ASSIGNABLE && program.baseOf(mergedName[i]) == name;
                boolean set = (mergedKind[i] & 3) == ASSIGNABLE && program.baseOf(name) == mergedName[i];
                if (setter || set) {
                    removeMerged(i);
                }
            }
            for (int i = 0; i < merged; i++) {
                if (mergedName[i] == name) {
                    at = i;
                }
            }
            if (at < 0 && merged < mergedName.length) {
                at = merged;
                merged++;
            }
            if (at >= 0) {
                mergedName[at] = name;
                mergedKind[at] = kind;
                mergedValue[at] = v;
            }
        }

        private void removeMerged(int slot) {
            for (int i = slot; i >= 0 && i < merged - 1; i++) {
                mergedName[i] = mergedName[i + 1];
                mergedKind[i] = mergedKind[i + 1];
                mergedValue[i] = mergedValue[i + 1];
            }
            merged--;
        }

        private void loadMerged(int o) {
            merged = Math.min(SLOTS, heap.sizeOf(o));
            for (int i = 0; i < merged; i++) {
                mergedName[i] = heap.named(o, i);
                mergedKind[i] = heap.kind(o, i);
                mergedValue[i] = heap.at(o, i);
            }
        }

        void storeMerged(int o) {
            if (!heap.isSort(o, PLAIN)) {
                return;
            }
            heap.size[o] = 0;
            for (int i = 0; i < merged; i++) {
                heap.addSlot(o, mergedName[i], mergedKind[i], mergedValue[i]);
            }
        }
    }

    /** Looks, which run nothing: searches, senders, shapes, references, the world's letters. */
    private static final class Looks {
        final Program program;
        final Heap heap;
        private final int[] stamps;
        private int stamp;
        private final int[] path;
        private int depth;
        private int wanted;
        private int wantedBase;
        private final int[] hit;
        int hits;
        final int[] found;
        int founds;
        final int[] sending;
        int sendings;
        private final int[] met;
        private final int[] metBy;
        private final int[] metAt;
        private int mets;
        private final Bytes draft = new Bytes(WRITTEN + 1);
        final Bytes written = new Bytes(WRITTEN);
        private int draftLost;
        int lost;

        Looks(Program program, Heap heap) {
            this.program = program;
            this.heap = heap;
            stamps = new int[heap.limit];
            path = new int[heap.limit];
            hit = new int[heap.limit];
            found = new int[heap.limit];
            sending = new int[heap.limit * SLOTS];
            met = new int[heap.limit];
            metBy = new int[heap.limit];
            metAt = new int[heap.limit];
        }

        // An object and its slot are held as one number: the slot in the five lowest bits.
        int part(int both, int what) {
            if (what == 0) {
                return both >> 5;
            }
            return what == 1 ? both & 31 : -1;
        }

        int hitObject() {
            return hits > 0 ? hit[0] >> 5 : -1;
        }

        int hitSlot() {
            return hits > 0 ? hit[0] & 31 : -1;
        }

        private void beginSearch(int symbol, int base) {
            stamp++;
            hits = 0;
            wanted = symbol;
            wantedBase = base;
        }

        void search(int start, int symbol, int base) {
            beginSearch(symbol, base);
            searchFrom(start);
        }

        void searchParents(int holder, int symbol, int base) {
            beginSearch(symbol, base);
            for (int i = 0; i < heap.sizeOf(holder); i++) {
                if (heap.hasSlot(holder, i) && (heap.kind(holder, i) & PARENT) != 0) {
                    searchFrom(heap.startOf(heap.at(holder, i)));
                }
            }
        }

        void searchParent(int holder, int name, int symbol, int base) {
            beginSearch(symbol, base);
            int i = heap.slotNamed(holder, name);
            if (i >= 0 && (heap.kind(holder, i) & PARENT) != 0) {
                searchFrom(heap.startOf(heap.at(holder, i)));
            }
        }

        private void searchFrom(int start) {
            depth = 0;
            meet(start);
            for (int k = 0; k < heap.limit * (SLOTS + 2) && depth > 0; k++) {
                int at = path[depth - 1];
                int o = at >> 5;
                int i = at & 31;
                if (!heap.hasSlot(o, i)) {
                    depth--;
                } else {
                    path[depth - 1] = at + 1;
                    if ((heap.kind(o, i) & PARENT) != 0) {
                        meet(heap.startOf(heap.at(o, i)));
                    }
                }
            }
        }

        private void meet(int o) {
            if (o < 0 || o >= stamps.length || stamps[o] == stamp) {
                return;
            }
            stamps[o] = stamp;
            int i = heap.slotFor(o, wanted, wantedBase);
            if (i >= 0 && hits < hit.length) {
                hit[hits] = o << 5 | i;
                hits++;
            } else if (depth < path.length) {
                path[depth] = o << 5;
                depth++;
            }
        }

        void keepFound(int start, Bytes name, int n) {
            int base = program.isSetter(name, 0, n) ? program.known(name, 0, n - 1) : -1;
            search(start, program.known(name, 0, n), base);
            founds = hits;
            for (int k = 0; k < hits; k++) {
                found[k] = hit[k];
            }
        }

        void keepSenders(int symbol) {
            sendings = 0;
            for (int o = 0; o < heap.limit && symbol >= 0; o++) {
                for (int i = 0; i < SLOTS && heap.hasSlot(o, i); i++) {
                    if (heap.kind(o, i) == METHOD && program.sends((int) heap.at(o, i), symbol)) {
                        sending[sendings] = o << 5 | i;
                        sendings++;
                    }
                }
            }
        }

        int shape(int o) {
            if (!heap.isSort(o, PLAIN)) {
                return -1;
            }
            for (int other = 0; other < o; other++) {
                if (heap.isSort(other, PLAIN) && alike(other, o)) {
                    return other;
                }
            }
            return o;
        }

        private boolean alike(int a, int b) {
            if (heap.sizeOf(a) != heap.sizeOf(b)) {
                return false;
            }
            for (int i = 0; i < heap.sizeOf(a); i++) {
                boolean like = heap.named(a, i) == heap.named(b, i) && heap.kind(a, i) == heap.kind(b, i);
                boolean free = (heap.kind(a, i) & 3) == ASSIGNABLE;
                if (!like || !free && heap.at(a, i) != heap.at(b, i)) {
                    return false;
                }
            }
            return true;
        }

        int referencesTo(int wantedObject) {
            int n = 0;
            for (int o = 0; o < heap.limit; o++) {
                int sort = heap.sort[o];
                boolean row = sort == VECTOR || sort == ACTIVATION;
                for (int i = 0; i < heap.size[o] && (row || sort == PLAIN); i++) {
                    if ((row || heap.hasValue(o, i)) && heap.at(o, i) == wantedObject) {
                        n++;
                    }
                }
                if (sort == ACTIVATION && heap.holder[o] == wantedObject) {
                    n++;
                }
                if ((sort == ACTIVATION || sort == BLOCK) && heap.home[o] == wantedObject) {
                    n++;
                }
            }
            return n;
        }

        /** How many bytes the world's letters have, or -1 if they are too many. */
        int writeWorld() {
            draft.size = 0;
            draftLost = 0;
            walk();
            for (int k = 1; k < mets && draft.size <= WRITTEN; k++) {
                if (met[k] >= ALWAYS) {
                    writePath(metBy[k] >> 5);
                    draft.putText(" _Slots: { ");
                    program.putName(draft, heap.named(met[metBy[k] >> 5], metBy[k] & 31));
                    draft.putText(" = { } }.\n");
                }
            }
            for (int k = 0; k < mets && draft.size <= WRITTEN; k++) {
                writePath(k);
                draft.putText(" _Define: { ");
                int n = heap.sizeOf(met[k]);
                for (int i = 0; i < n; i++) {
                    writeSlot(met[k], i);
                    draft.putText(i < n - 1 ? ". " : " ");
                }
                draft.putText("}.\n");
            }
            if (draft.size > WRITTEN) {
                return -1;
            }
            written.size = 0;
            written.putPart(draft, 0, draft.size);
            lost = draftLost;
            return written.size;
        }

        private void walk() {
            for (int o = 0; o < metAt.length; o++) {
                metAt[o] = -1;
            }
            met[0] = LOBBY;
            metAt[LOBBY] = 0;
            mets = 1;
            for (int k = 0; k < mets; k++) {
                for (int i = 0; i < SLOTS && heap.hasSlot(met[k], i); i++) {
                    long v = heap.hasValue(met[k], i) ? heap.at(met[k], i) : -1;
                    if (heap.isSort(v, PLAIN) && metAt[(int) v] < 0 && mets < met.length) {
                        met[mets] = (int) v;
                        metBy[mets] = k << 5 | i;
                        metAt[(int) v] = mets;
                        mets++;
                    }
                }
            }
        }

        /** The path of what was met k-th: the way down from lobby is found from its end. */
        private void writePath(int k) {
            if (k <= 0) {
                draft.putText("self");
                return;
            }
            int steps = 0;
            for (int at = k; at > 0 && steps < path.length; at = metBy[at] >> 5) {
                path[steps] = metBy[at];
                steps++;
            }
            for (int s = steps - 1; s >= 0 && draft.size <= WRITTEN; s--) {
                program.putName(draft, heap.named(met[path[s] >> 5], path[s] & 31));
                if (s > 0) {
                    draft.put(' ');
                }
            }
        }

        private void writeSlot(int o, int i) {
            int kind = heap.kind(o, i);
            long v = heap.at(o, i);
            if (kind == METHOD) {
                int body = (int) v;
                draft.putPart(program.letters, program.op(body + BODY_LETTERS), program.op(body + BODY_LENGTH));
                return;
            }
            program.putName(draft, heap.named(o, i));
            draft.putText((kind & PARENT) != 0 ? "*" : "");
            draft.putText((kind & 3) == ASSIGNABLE ? " <- " : " = ");
            if (isWhole(v)) {
                draft.putDigits(v - WHOLE);
            } else if (heap.isSort(v, STRING)) {
                writeString((int) v);
            } else if (heap.isSort(v, PLAIN)) {
                writePath(metAt[(int) v]);
            } else {
                draft.putText("nil");
                draftLost++;
            }
        }

        private void writeString(int o) {
            draft.put('\'');
            for (int i = 0; i < heap.sizeOf(o); i++) {
                int c = (int) heap.at(o, i);
                if (c == 10 || c == '\'' || c == '\\') {
                    draft.put('\\');
                }
                draft.put(c == 10 ? 'n' : c);
            }
            draft.put('\'');
        }
    }

    /** Works out the code of the process at the head of the row, a step or a message at a time. */
    private static final class Machine {
        final Program program;
        final Heap heap;
        final Tasks tasks;
        final Keeper keeper;
        final Looks looks;
        int units;
        int activations;
        boolean unit;
        boolean yields;
        Task task;
        int symbol;
        int base;
        int arguments;
        private int to;
        int reason;
        private int error;
        private long target;
        private int goal;
        long given;
        final Bytes performed = new Bytes(64);

        Machine(Program program, Heap heap, Tasks tasks, Keeper keeper, Looks looks) {
            this.program = program;
            this.heap = heap;
            this.tasks = tasks;
            this.keeper = keeper;
            this.looks = looks;
            task = tasks.first();
        }

        /** One part of the code; what it answers is what is to be done next. */
        int step() {
            task = tasks.first();
            if (task.depth == 0) {
                return open();
            }
            int at = task.place();
            switch (program.op(at)) {
                case DO_NIL: return pushed(NIL, at + 1);
                case DO_WHOLE: return pushed(WHOLE + program.op(at + 1), at + 2);
                case DO_STRING: return string(at);
                case DO_SELF: return pushed(heap.selfOf(task.latest()), at + 1);
                case DO_CELL: return pushed(heap.at(around(program.op(at + 1)), program.op(at + 2)), at + 3);
                case DO_CHANGE:
                    heap.set(around(program.op(at + 1)), program.op(at + 2), task.pop());
                    task.goTo(at + 3);
                    return STEP;
                case DO_SEND: return message(at, NO_TO, program.op(at + 1));
                case DO_RESEND: return message(at, RESEND, program.op(at + 1));
                case DO_DIRECT: return message(at, program.op(at + 1), program.op(at + 2));
                case DO_PASS:
                    task.goTo(at + 1);
                    set(VALUE);
                    return SEND;
                case DO_BLOCK: return block(at);
                case DO_SLOT:
                    task.goTo(program.op(at + 1 + BODY_END));
                    setLiteral(LITERAL, heap.selfOf(task.latest()));
                    return begin(at + 1, LOBBY, LOBBY, -1, 0);
                case DO_METHOD:
                    task.goTo(program.op(at + 1 + BODY_END));
                    return STEP;
                case DO_OBJECT: return braces(at);
                case DO_POP:
                    task.drop(1);
                    task.goTo(at + 1);
                    return STEP;
                case DO_CARET: return caret(at);
                case DO_GO_ON:
                    goal = (int) task.pop();
                    given = task.pop();
                    return LEAVE;
                default:
                    given = task.pop();
                    return THROUGH;
            }
        }

        /** The message at hand was a unit: it is counted, and its process may have to go behind. */
        void closeUnit() {
            unit = false;
            units++;
            if (task.object < 0 || tasks.placeOf(task) != 0) {
                yields = false;
                return;
            }
            tasks.inOneGo++;
            if (yields || tasks.inOneGo >= GO) {
                tasks.toLast(task);
            }
            yields = false;
        }

        private int pushed(long v, int place) {
            task.push(v);
            task.goTo(place);
            return STEP;
        }

        private void set(int newSymbol) {
            symbol = newSymbol;
            base = program.baseOf(newSymbol);
            arguments = program.partsOf(newSymbol);
            to = NO_TO;
        }

        private void setLiteral(int what, long self) {
            symbol = what;
            arguments = 0;
            target = self;
        }

        private int message(int at, int where, int what) {
            task.goTo(at + program.width(at));
            task.units++;
            unit = true;
            set(what);
            to = where;
            return program.isAct(what) ? DO_ACT : SEND;
        }

        private int open() {
            if (task.body < 0 && task.block < 0) {
                given = task.pending;
                return ENDS;
            }
            int block = task.block;
            int home = heap.homeOf(block);
            long self = block < 0 ? LOBBY : heap.selfOf(home);
            int holder = block < 0 ? LOBBY : heap.holderOf(home);
            int body = block < 0 ? task.body : heap.bodyOf(block);
            setLiteral(LITERAL, self);
            int phase = begin(body, self, holder, home, 0);
            task.body = -1;
            task.block = -1;
            return phase;
        }

        private int around(int hops) {
            int o = task.latest();
            for (int k = 0; k < hops; k++) {
                o = heap.homeOf(o);
            }
            return o;
        }

        private int string(int at) {
            int from = program.op(at + 1);
            int n = program.op(at + 2);
            keeper.text.size = 0;
            for (int i = 0; i < n; i++) {
                int c = program.letters.at(from + i);
                if (c == '\\') {
                    i++;
                    c = program.letters.at(from + i);
                    c = c == 'n' ? 10 : c;
                }
                keeper.text.put(c);
            }
            task.goTo(at + 3);
            return literal(keeper.string(), 0);
        }

        private int literal(int o, int drop) {
            if (o < 0) {
                setLiteral(LITERAL, heap.selfOf(task.latest()));
                return stopWith(ERROR_ROOM, drop);
            }
            task.drop(drop);
            task.push(o);
            return STEP;
        }

        private int block(int at) {
            task.goTo(program.op(at + 1 + BODY_END));
            int o = keeper.make(BLOCK);
            if (o >= 0) {
                heap.body[o] = at + 1;
                heap.home[o] = task.latest();
            }
            return literal(o, 0);
        }

        private int braces(int at) {
            int n = program.op(at + 1);
            int told = 0;
            for (int i = 0; i < n; i++) {
                told += program.op(at + 3 + 3 * i) == METHOD ? 0 : 1;
            }
            task.goTo(at + 2 + 3 * n);
            int o = keeper.make(PLAIN);
            int left = told;
            for (int i = 0; i < n && o >= 0; i++) {
                int kind = program.op(at + 3 + 3 * i);
                left -= kind == METHOD ? 0 : 1;
                long v = kind == METHOD ? program.op(at + 4 + 3 * i) : task.peek(left);
                heap.addSlot(o, program.op(at + 2 + 3 * i), kind, v);
            }
            return literal(o, told);
        }

        /** The latest activation is through, and has given its answer. */
        int through() {
            task.leave();
            if (task.depth == 0) {
                return ENDS;
            }
            task.push(given);
            return STEP;
        }

        private int caret(int at) {
            task.goTo(at + 1);
            given = task.pop();
            goal = task.latest();
            for (int k = 0; k < heap.limit && program.op(heap.bodyOf(goal)) == BLOCK_BODY; k++) {
                goal = heap.homeOf(goal);
            }
            for (int i = 0; i < task.depth; i++) {
                if (task.activation(i) == goal) {
                    return LEAVE;
                }
            }
            setLiteral(CARET, heap.selfOf(task.latest()));
            return stopWith(ERROR_GONE, 0);
        }

        /** Activations are left, the latest first, up to the goal; an ensure: on the way has its b first. */
        int leave() {
            for (int k = 0; k < DEEPEST && task.depth > 1 && task.latest() != goal; k++) {
                if (heap.bodyOf(task.latest()) == ENSURE_AT && task.place() == ENSURE_FIRST) {
                    task.clear();
                    task.push(given);
                    task.push(goal);
                    task.goTo(ENSURE_LEFT);
                    return STEP;
                }
                task.leave();
            }
            return THROUGH;
        }

        /** A body begins; its arguments are at the top, and behind that as many as drop go. */
        private int begin(int body, long self, int holder, int home, int drop) {
            if (task.depth >= DEEPEST) {
                return stopWith(ERROR_DEPTH, drop);
            }
            int o = keeper.make(ACTIVATION);
            if (o < 0) {
                return stopWith(ERROR_ROOM, drop);
            }
            activations++;
            heap.self[o] = self;
            heap.holder[o] = holder;
            heap.home[o] = home;
            heap.body[o] = body;
            int taken = program.op(body + BODY_ARGUMENTS);
            int cells = program.op(body + BODY_CELLS);
            heap.size[o] = cells;
            for (int i = 0; i < cells; i++) {
                int told = body + HEAD + CELL * i + 1;
                long first = program.op(told) == 0 ? NIL : WHOLE + program.op(told + 1);
                heap.set(o, i, i < taken ? task.peek(taken - 1 - i) : first);
            }
            task.drop(drop);
            task.enter(o, program.firstOf(body));
            return STEP;
        }

        /** What is at hand errs. As many values as drop were worked out for it: behind that no sweep reaches them. */
        private int stopWith(int newError, int drop) {
            error = newError;
            task.told = newError == ERROR_TOLD ? task.peek(arguments - 1) : NIL;
            task.drop(drop);
            return STOP;
        }

        int stopMessage(int newError) {
            target = task.peek(arguments);
            return stopWith(newError, arguments + 1);
        }

        /** The process at work is stopped by its error. */
        int stop() {
            task.error = error;
            task.reason = error == ERROR_ACT ? reason : 0;
            task.erredArguments = arguments;
            task.erredTo = target;
            task.erredName.size = 0;
            putSelector(task.erredName);
            tasks.leaveRow(task, STOPPED);
            return STEP;
        }

        private void putSelector(Bytes to) {
            if (symbol == CARET) {
                to.put('^');
            } else if (symbol == PERFORMED) {
                to.putPart(performed, 0, performed.size);
            } else {
                program.putName(to, symbol);
            }
        }

        /** The message at hand is sent to what stands below its arguments. */
        int deliver() {
            long receiver = task.peek(arguments);
            target = receiver;
            boolean own = symbol >= VALUE && symbol <= VALUE_3 || symbol == ENSURE;
            int holder = heap.holderOf(task.latest());
            if (to == RESEND) {
                looks.searchParents(holder, symbol, base);
            } else if (to != NO_TO) {
                looks.searchParent(holder, to, symbol, base);
            } else if (own && heap.isSort(receiver, BLOCK)) {
                return deliverToBlock((int) receiver);
            } else {
                looks.search(heap.startOf(receiver), symbol, base);
            }
            if (looks.hits > 1) {
                return stopMessage(ERROR_AMBIGUOUS);
            }
            if (looks.hits == 0) {
                return to == NO_TO ? PASS : stopMessage(ERROR_NONE);
            }
            return USE;
        }

        /** The slot that was found answers the message at hand, or begins. */
        int useSlot() {
            long receiver = task.peek(arguments);
            int o = looks.hitObject();
            int i = looks.hitSlot();
            if (heap.kind(o, i) == METHOD) {
                return begin((int) heap.at(o, i), receiver, o, -1, arguments + 1);
            }
            if (heap.named(o, i) == symbol) {
                return reply(heap.at(o, i));
            }
            heap.set(o, i, task.peek(0));
            return reply(receiver);
        }

        int reply(long v) {
            task.drop(arguments + 1);
            task.push(v);
            return STEP;
        }

        private int deliverToBlock(int block) {
            if (symbol == ENSURE) {
                return begin(ENSURE_AT, block, BLOCKS, -1, arguments + 1);
            }
            int body = heap.bodyOf(block);
            if (program.op(body + BODY_ARGUMENTS) != arguments) {
                return stopMessage(ERROR_COUNT);
            }
            int home = heap.homeOf(block);
            return begin(body, heap.selfOf(home), heap.holderOf(home), home, arguments + 1);
        }

        /** What nothing was found for goes to unknown:With: , if there is one. */
        int passUnknown() {
            long receiver = task.peek(arguments);
            looks.search(heap.startOf(receiver), UNKNOWN, -1);
            if (looks.hits != 1) {
                return stopMessage(ERROR_NONE);
            }
            keeper.text.size = 0;
            putSelector(keeper.text);
            int name = keeper.string();
            if (name < 0) {
                return stopMessage(ERROR_ROOM);
            }
            task.push(name);
            int vector = keeper.make(VECTOR);
            task.drop(1);
            if (vector < 0) {
                return stopMessage(ERROR_ROOM);
            }
            heap.size[vector] = arguments;
            for (int i = 0; i < arguments; i++) {
                heap.set(vector, i, task.peek(arguments - 1 - i));
            }
            task.drop(arguments + 1);
            task.push(receiver);
            task.push(name);
            task.push(vector);
            set(UNKNOWN);
            return USE;
        }

        /** An act failed: its reason goes to the block behind IfFail: , without one it is an error. */
        int giveReason() {
            if (!program.failsToBlock(symbol)) {
                return stopMessage(ERROR_ACT);
            }
            keeper.text.size = 0;
            keeper.text.putWord(REASONS, reason - 1);
            int told = keeper.string();
            if (told < 0) {
                return stopMessage(ERROR_ROOM);
            }
            long block = task.peek(0);
            task.drop(arguments + 1);
            task.push(block);
            task.push(told);
            set(VALUE_1);
            return SEND;
        }

        /** The message that _Perform:With: tells, its selector in performed, takes the act's place. */
        int perform(long receiver, int vector) {
            int n = heap.sizeOf(vector);
            int known = program.known(performed, 0, performed.size);
            int setter = program.isSetter(performed, 0, performed.size) ? performed.size - 1 : 0;
            task.drop(arguments + 1);
            task.push(receiver);
            for (int i = 0; i < n; i++) {
                task.push(heap.at(vector, i));
            }
            symbol = known < 0 ? PERFORMED : known;
            base = setter > 0 ? program.known(performed, 0, setter) : -1;
            arguments = n;
            to = NO_TO;
            return SEND;
        }

        int restart() {
            task.clear();
            task.goTo(program.firstOf(heap.bodyOf(task.latest())));
            return STEP;
        }
    }

    /** The acts of the house. Each answers what is to be done next. */
    private static final class Acts {
        final Machine machine;
        final Program program;
        final Heap heap;
        final Tasks tasks;
        final Keeper keeper;
        final Bytes out;
        private Task task;
        private long receiver;
        private long first;

        Acts(Machine machine, Bytes out) {
            this.machine = machine;
            this.out = out;
            program = machine.program;
            heap = machine.heap;
            tasks = machine.tasks;
            keeper = machine.keeper;
            task = machine.task;
        }

        int act() {
            task = machine.task;
            receiver = task.peek(machine.arguments);
            first = argument(0);
            int which = program.actOf(machine.symbol);
            switch (which) {
                case ACT_ADD: case ACT_SUB: case ACT_MUL: case ACT_DIV: case ACT_MOD:
                case ACT_AND: case ACT_OR: case ACT_XOR: case ACT_SHIFT: case ACT_LESS:
                    return arithmetic(which);
                case ACT_SAME: return machine.reply(receiver == first ? TRUE : FALSE);
                case ACT_COPY: return copy();
                case ACT_VECTOR: return newVector();
                case ACT_SIZE: return isRow() ? machine.reply(WHOLE + heap.sizeOf(receiver)) : fail(TYPE);
                case ACT_AT: return element();
                case ACT_AT_PUT: return putElement();
                case ACT_JOIN: return joined();
                case ACT_TEXT: return digits();
                case ACT_WHOLE: return fromDigits();
                case ACT_BYTES: return fromBytes();
                case ACT_PERFORM: return perform();
                case ACT_RESTART: return machine.restart();
                case ACT_ERROR: return machine.stopMessage(ERROR_TOLD);
                case ACT_PRINT: return print();
                case ACT_NAMES: return names();
                case ACT_KIND: case ACT_PEEK: return lookAt(which);
                case ACT_SLOTS: case ACT_DEFINE: case ACT_BECOME: return change(which);
                case ACT_TAKE: return takeSlot();
                case ACT_SPAWN: return spawn();
                case ACT_VALUE: return valueOf();
                case ACT_YIELD:
                    machine.yields = true;
                    return machine.reply(receiver);
                case ACT_SEMAPHORE: return newSemaphore();
                case ACT_WAIT: return waitSignal();
                case ACT_SIGNAL: return giveSignal();
                default: return fail(NO_ACT);
            }
        }

        private long argument(int i) {
            return i < machine.arguments ? task.peek(machine.arguments - 1 - i) : NIL;
        }

        private int fail(int reason) {
            machine.reason = reason;
            return FAIL;
        }

        private int made(int o) {
            return o < 0 ? machine.stopMessage(ERROR_ROOM) : machine.reply(o);
        }

        private int whole(long v) {
            boolean fits = v >= Integer.MIN_VALUE && v <= Integer.MAX_VALUE;
            return fits ? machine.reply(WHOLE + v) : fail(OVERFLOW);
        }

        private int arithmetic(int which) {
            if (!isWhole(receiver) || !isWhole(first)) {
                return fail(TYPE);
            }
            long a = receiver - WHOLE;
            long b = first - WHOLE;
            switch (which) {
                case ACT_ADD: return whole(a + b);
                case ACT_SUB: return whole(a - b);
                case ACT_MUL: return whole(a * b);
                case ACT_DIV: return b == 0 ? fail(DIVISOR) : whole(a / b);
                case ACT_MOD: return b == 0 ? fail(DIVISOR) : whole(a % b);
                case ACT_AND: return whole(a & b);
                case ACT_OR: return whole(a | b);
                case ACT_XOR: return whole(a ^ b);
                case ACT_LESS: return machine.reply(a < b ? TRUE : FALSE);
                default: return shift(a, b);
            }
        }

        private int shift(long a, long b) {
            if (b < -31 || b > 31) {
                return fail(INDEX);
            }
            return whole(b < 0 ? a >> -b : a << b);
        }

        private boolean isRow() {
            return heap.isSort(receiver, VECTOR) || heap.isSort(receiver, STRING);
        }

        private int copy() {
            boolean plain = heap.isSort(receiver, PLAIN);
            if (!plain && !heap.isSort(receiver, VECTOR)) {
                return fail(TYPE);
            }
            int o = keeper.make(plain ? PLAIN : VECTOR);
            if (o >= 0 && plain) {
                heap.copySlots(o, (int) receiver);
            } else if (o >= 0) {
                heap.size[o] = heap.sizeOf(receiver);
                for (int i = 0; i < heap.size[o]; i++) {
                    heap.set(o, i, heap.at((int) receiver, i));
                }
            }
            return made(o);
        }

        private int newVector() {
            if (!isWhole(first)) {
                return fail(TYPE);
            }
            if (first < WHOLE || first > WHOLE + ROW) {
                return fail(SIZE);
            }
            int n = (int) (first - WHOLE);
            int o = keeper.make(VECTOR);
            for (int i = 0; i < n && o >= 0; i++) {
                heap.set(o, i, argument(1));
            }
            if (o >= 0) {
                heap.size[o] = n;
            }
            return made(o);
        }

        private boolean isIndex() {
            return first >= WHOLE && first < WHOLE + heap.sizeOf(receiver);
        }

        private int element() {
            if (!isRow() || !isWhole(first)) {
                return fail(TYPE);
            }
            if (!isIndex()) {
                return fail(INDEX);
            }
            long v = heap.at((int) receiver, (int) (first - WHOLE));
            return machine.reply(heap.isSort(receiver, STRING) ? WHOLE + v : v);
        }

        private int putElement() {
            if (!heap.isSort(receiver, VECTOR) || !isWhole(first)) {
                return fail(TYPE);
            }
            if (!isIndex()) {
                return fail(INDEX);
            }
            heap.set((int) receiver, (int) (first - WHOLE), argument(1));
            return machine.reply(receiver);
        }

        private void addBytes(Bytes to, long string) {
            for (int i = 0; i < heap.sizeOf(string); i++) {
                to.put((int) heap.at((int) string, i));
            }
        }

        private int joined() {
            if (!heap.isSort(receiver, STRING) || !heap.isSort(first, STRING)) {
                return fail(TYPE);
            }
            if (heap.sizeOf(receiver) + heap.sizeOf(first) > ROW) {
                return fail(SIZE);
            }
            keeper.text.size = 0;
            addBytes(keeper.text, receiver);
            addBytes(keeper.text, first);
            return made(keeper.string());
        }

        private int digits() {
            if (heap.isSort(receiver, STRING)) {
                return machine.reply(receiver);
            }
            if (!isWhole(receiver)) {
                return fail(TYPE);
            }
            keeper.text.size = 0;
            keeper.text.putDigits(receiver - WHOLE);
            return made(keeper.string());
        }

        private int fromDigits() {
            if (!heap.isSort(receiver, STRING)) {
                return fail(TYPE);
            }
            int o = (int) receiver;
            int n = heap.sizeOf(o);
            int from = n > 0 && heap.at(o, 0) == '-' ? 1 : 0;
            long told = 0;
            boolean fits = from < n;
            for (int i = from; i < n && fits; i++) {
                long c = heap.at(o, i);
                told = told * 10 + c - '0';
                fits = c >= '0' && c <= '9' && told <= 1L + Integer.MAX_VALUE;
            }
            told = from == 1 ? -told : told;
            if (!fits || told > Integer.MAX_VALUE) {
                return fail(DIGITS);
            }
            return machine.reply(WHOLE + told);
        }

        private int fromBytes() {
            if (!heap.isSort(receiver, VECTOR)) {
                return fail(TYPE);
            }
            int n = heap.sizeOf(receiver);
            boolean fits = true;
            keeper.text.size = 0;
            for (int i = 0; i < n; i++) {
                long v = heap.at((int) receiver, i);
                if (!isWhole(v)) {
                    return fail(TYPE);
                }
                long c = v - WHOLE;
                fits = fits && (c == 10 || c >= 32 && c <= 126);
                keeper.text.put((int) c);
            }
            return fits ? made(keeper.string()) : fail(INDEX);
        }

        private int perform() {
            long vector = argument(1);
            if (!heap.isSort(first, STRING) || !heap.isSort(vector, VECTOR)) {
                return fail(TYPE);
            }
            machine.performed.size = 0;
            addBytes(machine.performed, first);
            int parts = partsToldIn(machine.performed);
            if (parts < 0 || parts > ARGUMENTS) {
                return fail(NO_NAME);
            }
            if (parts != heap.sizeOf(vector)) {
                return fail(UNLIKE_MANY);
            }
            return machine.perform(receiver, (int) vector);
        }

        /** How many arguments this selector has, or -1 if it is none. */
        private int partsToldIn(Bytes name) {
            int c = name.at(0);
            if (c < 'a' || c > 'z') {
                for (int i = 0; i < name.size; i++) {
                    if (SIGNS.indexOf((char) name.at(i)) < 0) {
                        return -1;
                    }
                }
                return name.size == 0 ? -1 : 1;
            }
            int parts = 0;
            int from = 0;
            for (int i = 0; i < name.size; i++) {
                boolean colon = name.at(i) == ':';
                boolean begins = i > from || i == 0 || name.at(i) >= 'A' && name.at(i) <= 'Z';
                if (!begins || !colon && (!isNameByte(name.at(i)) || i - from >= 16)) {
                    return -1;
                }
                if (colon) {
                    parts++;
                    from = i + 1;
                }
            }
            boolean whole = parts == 0 || from == name.size;
            return whole && !isReserved(name) ? parts : -1;
        }

        /** self and resend are no names, so they begin no selector. */
        private boolean isReserved(Bytes name) {
            program.scratch.size = 0;
            program.scratch.putText("selfresend");
            boolean self = name.same(0, program.scratch, 0, 4) && !isNameByte(name.at(4));
            boolean resend = name.same(0, program.scratch, 4, 6) && !isNameByte(name.at(6));
            return self || resend;
        }

        private int print() {
            if (heap.isSort(receiver, STRING)) {
                addBytes(out, receiver);
            } else if (isWhole(receiver)) {
                out.putDigits(receiver - WHOLE);
            } else {
                return fail(TYPE);
            }
            return machine.reply(receiver);
        }

        private int names() {
            if (!heap.isSort(receiver, PLAIN)) {
                return fail(TYPE);
            }
            int n = heap.sizeOf(receiver);
            int strings = 0;
            int o = 0;
            for (int i = 0; i < n && o >= 0; i++) {
                keeper.text.size = 0;
                program.putName(keeper.text, heap.named((int) receiver, i));
                o = keeper.string();
                // What is made stands on the stack, so that a sweep ahead of the next reaches it.
                task.push(o);
                strings++;
            }
            o = o < 0 ? -1 : keeper.make(VECTOR);
            for (int i = 0; i < n && o >= 0; i++) {
                heap.set(o, i, task.peek(n - 1 - i));
            }
            task.drop(strings);
            if (o >= 0) {
                heap.size[o] = n;
            }
            return made(o);
        }

        private int slotTold() {
            keeper.text.size = 0;
            addBytes(keeper.text, first);
            int name = program.known(keeper.text, 0, keeper.text.size);
            return name < 0 ? -1 : heap.slotNamed((int) receiver, name);
        }

        private int lookAt(int which) {
            if (!heap.isSort(receiver, PLAIN) || !heap.isSort(first, STRING)) {
                return fail(TYPE);
            }
            int i = slotTold();
            if (i < 0) {
                return fail(NO_NAME);
            }
            int kind = heap.kind((int) receiver, i);
            if (which == ACT_KIND) {
                return machine.reply(WHOLE + kind);
            }
            return kind == METHOD ? fail(TYPE) : machine.reply(heap.at((int) receiver, i));
        }

        private int change(int which) {
            if (!heap.isSort(receiver, PLAIN) || !heap.isSort(first, PLAIN)) {
                return fail(TYPE);
            }
            int o = (int) receiver;
            int other = (int) first;
            if (which == ACT_SLOTS && !keeper.mergeWith(o, other)) {
                return fail(SIZE);
            }
            keeper.keep(o, which == ACT_BECOME ? other : -1);
            if (which == ACT_SLOTS) {
                keeper.storeMerged(o);
            } else if (which == ACT_DEFINE) {
                heap.copySlots(o, other);
            } else {
                keeper.exchange();
            }
            return machine.reply(receiver);
        }

        private int takeSlot() {
            if (!heap.isSort(receiver, PLAIN) || !heap.isSort(first, STRING)) {
                return fail(TYPE);
            }
            int i = slotTold();
            if (i < 0) {
                return fail(NO_NAME);
            }
            int o = (int) receiver;
            keeper.mergeWithout(o, i);
            keeper.keep(o, -1);
            keeper.storeMerged(o);
            return machine.reply(receiver);
        }

        private int spawn() {
            if (!heap.isSort(receiver, BLOCK)) {
                return fail(TYPE);
            }
            if (program.op(heap.bodyOf((int) receiver) + BODY_ARGUMENTS) != 0) {
                return fail(UNLIKE_MANY);
            }
            if (tasks.open >= TASKS) {
                return fail(FULL);
            }
            int o = keeper.make(PROCESS);
            if (o >= 0) {
                tasks.begin(o, -1, (int) receiver);
            }
            return made(o);
        }

        private int valueOf() {
            if (!heap.isSort(receiver, PROCESS)) {
                return fail(TYPE);
            }
            int p = (int) receiver;
            if (heap.homeOf(p) < 0) {
                return machine.reply(heap.at(p, 0));
            }
            task.drop(machine.arguments + 1);
            tasks.waitFor(task, p);
            return STEP;
        }

        private int newSemaphore() {
            if (!isWhole(first)) {
                return fail(TYPE);
            }
            if (first < WHOLE || first > WHOLE + SIGNALS) {
                return fail(INDEX);
            }
            int o = keeper.make(SEMAPHORE);
            if (o >= 0) {
                heap.size[o] = (int) (first - WHOLE);
            }
            return made(o);
        }

        private int waitSignal() {
            if (!heap.isSort(receiver, SEMAPHORE)) {
                return fail(TYPE);
            }
            int o = (int) receiver;
            if (heap.size[o] > 0) {
                heap.size[o]--;
                return machine.reply(receiver);
            }
            task.drop(machine.arguments + 1);
            tasks.waitFor(task, o);
            return STEP;
        }

        private int giveSignal() {
            if (!heap.isSort(receiver, SEMAPHORE)) {
                return fail(TYPE);
            }
            int o = (int) receiver;
            if (!tasks.wakeFor(o, receiver)) {
                if (heap.size[o] >= SIGNALS) {
                    return fail(OVERFLOW);
                }
                heap.size[o]++;
            }
            return machine.reply(receiver);
        }
    }
}
