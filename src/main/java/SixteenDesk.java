import java.util.NoSuchElementException;

/** The LC-3 with an assembler of two passes and a writer of lines, as ../shared/DOC.md promises it. */
public final class SixteenDesk {
    public static final int NONE = -1;

    private static final int TAPE_MOST = 4000;
    private static final int PRINTED_MOST = 4000;
    private static final int KEYS_MOST = 100;
    private static final int WORDS_MOST = 4096;
    private static final int LABELS_MOST = 200;
    private static final int STEPS_MOST = 20000;
    private static final int LINE_MOST = 32;
    private static final int LOW_16 = 65535;
    private static final int PLACES = 65536;
    private static final int LINE_FEED = 10;

    private static final int RUNS = 0;
    private static final int HALTED = 1;
    private static final int WAITS = 2;

    private static final int PC = 8;
    private static final int PSR = 9;
    private static final int SUPER = 10;
    private static final int USER = 11;
    private static final int REGISTERS = 12;

    private static final int STEPS = 0;
    private static final int INTERRUPTS = 1;
    private static final int EXCEPTIONS = 2;
    private static final int TRAPS = 3;
    private static final int COUNTS = 4;

    private static final int USER_MODE = 0x8000;
    private static final int PRIORITY = 0x0700;
    private static final int PRIORITY_4 = 0x0400;
    private static final int PSR_BITS = 0x8707;
    private static final int USER_FROM = 0x3000;
    private static final int USER_UP_TO = 0xFE00;
    private static final int KBSR = 0xFE00;
    private static final int KBDR = 0xFE02;
    private static final int DSR = 0xFE04;
    private static final int DDR = 0xFE06;
    private static final int MCR = 0xFFFE;
    private static final int BIT_15 = 0x8000;
    private static final int BIT_14 = 0x4000;
    private static final int VECTORS = 256;
    private static final int KEY_VECTOR = VECTORS + 128;

    private static final int SYNTAX = 1;
    private static final int RANGE = 2;
    private static final int TWICE = 3;
    private static final int ROOM = 4;
    private static final int UNKNOWN = 5;
    private static final int FAR = 6;

    private static final int LINE_END = 0;
    private static final int NAME = 1;
    private static final int NUMBER = 2;
    private static final int REGISTER = 3;
    private static final int LABEL = 4;
    private static final int TEXT = 5;
    private static final int BAD = 6;

    private static final int SIGN_0 = 27;
    private static final int LAST_LETTER_SIGN = 26;
    private static final int LAST_LABEL_SIGN = 37;
    private static final int SIGN_BASE = 64;
    private static final int HEAD_MOST = 10;
    private static final int LABEL_MOST = 20;
    private static final int NAME_R0 = 18 * SIGN_BASE + SIGN_0;

    // A base that no word has: what bears it is not told of any word, and takes none of its own.
    private static final int NEVER = 0x10000;

    private final Bytes tape = new Bytes(TAPE_MOST);
    private final Assembler assembler = new Assembler(tape);
    private final Machine machine = new Machine();
    private final Writer writer = new Writer();

    public SixteenDesk() {
    }

    public int feed(int a, int b, int c, int d, int e) {
        if (!tape.hasRoom(20)) {
            return NONE;
        }
        tape.addFour(a);
        tape.addFour(b);
        tape.addFour(c);
        tape.addFour(d);
        tape.addFour(e);
        return tape.length;
    }

    public boolean end(int n) {
        if (n < 0 || n > tape.length) {
            return false;
        }
        tape.cut(n);
        return true;
    }

    public int assemble() {
        return assembler.translate();
    }

    public int told(int what) throws NoSuchElementException {
        switch (what) {
            case 0:
                return assembler.fault;
            case 1:
                return assembler.faultPlace;
            case 2:
                return assembler.landed.size;
            case 3:
                return assembler.landed.origin;
            case 4:
                return assembler.landed.labels;
            default:
                throw new NoSuchElementException("told: what is 0 to 4");
        }
    }

    public int word(int i) throws NoSuchElementException {
        Program program = assembler.landed;
        if (i < 0 || i >= program.size) {
            throw new NoSuchElementException("word: none such");
        }
        return program.words[i];
    }

    public int label(int i) throws NoSuchElementException {
        Program program = assembler.landed;
        if (i < 0 || i >= program.labels) {
            throw new NoSuchElementException("label: none such");
        }
        return program.places[i];
    }

    public boolean load() {
        if (!assembler.assembled) {
            return false;
        }
        machine.restart(assembler.landed);
        return true;
    }

    public boolean key(int k) {
        return machine.typed(k);
    }

    public int run(int steps) throws IllegalArgumentException {
        if (steps < 0 || steps > STEPS_MOST) {
            throw new IllegalArgumentException("run: steps is 0 to 20000");
        }
        return machine.go(steps);
    }

    public int state() {
        return machine.state;
    }

    public int register(int r) throws NoSuchElementException {
        if (r < 0 || r >= REGISTERS) {
            throw new NoSuchElementException("register: r is 0 to 11");
        }
        return machine.row[r];
    }

    public boolean set(int r, int v) {
        if (r < 0 || r >= REGISTERS) {
            return false;
        }
        machine.row[r] = v & (r == PSR ? PSR_BITS : LOW_16);
        return true;
    }

    public int peek(int place) {
        return machine.look(place & LOW_16);
    }

    public void poke(int place, int v) {
        machine.memory.keep(place, v);
    }

    public int write(int place) {
        writer.tell(machine.look(place & LOW_16));
        return writer.line.length;
    }

    public int written(int i) {
        return writer.line.byteAt(i);
    }

    public int again() {
        Bytes line = writer.line;
        if (!tape.hasRoom(line.length + 1)) {
            return NONE;
        }
        for (int i = 0; i < line.length; i++) {
            tape.add(line.byteAt(i));
        }
        tape.add(LINE_FEED);
        return tape.length;
    }

    public int printed() {
        return machine.printer.total;
    }

    public int print(int i) {
        return machine.printer.byteAt(i);
    }

    public int count(int what) throws NoSuchElementException {
        if (what == COUNTS) {
            return machine.keyboard.waiting;
        }
        if (what < 0 || what > COUNTS) {
            throw new NoSuchElementException("count: what is 0 to 4");
        }
        return machine.counts[what];
    }

    /**
     * The sign of a byte that may stand in a WORD, small letters as great ones; 0 of all others.
     * No sign is 0 and all are below 64, so ten of them lie in a long without loss.
     */
    private static int signOf(int b) {
        if (b >= 'A' && b <= 'Z') {
            return b - 'A' + 1;
        }
        if (b >= 'a' && b <= 'z') {
            return b - 'a' + 1;
        }
        if (b >= '0' && b <= '9') {
            return b - '0' + SIGN_0;
        }
        switch (b) {
            case '_':
                return LAST_LABEL_SIGN;
            case '.':
                return 38;
            case '#':
                return 39;
            case '-':
                return 40;
            default:
                return 0;
        }
    }

    /** The digit that a byte is, in hexadecimals too; of all others one that no base has. */
    private static int digitOf(int b) {
        if (b >= '0' && b <= '9') {
            return b - '0';
        }
        if (b >= 'A' && b <= 'F') {
            return b - 'A' + 10;
        }
        if (b >= 'a' && b <= 'f') {
            return b - 'a' + 10;
        }
        return 16;
    }

    /** What backslash and this byte mean in a TEXT, NONE if they mean nothing. */
    private static int meaning(int b) {
        switch (b) {
            case 'n':
                return 10;
            case 't':
                return 9;
            case '0':
                return 0;
            case '"':
            case '\\':
                return b;
            default:
                return NONE;
        }
    }

    /** The lowest bits of a word as a number with sign. */
    private static int signed(int word, int bits) {
        int half = 1 << (bits - 1);
        return (word & (2 * half - 1) ^ half) - half;
    }

    /**
     * All that may begin a LINE behind its LABEL. The writer takes the first that gives a word, so
     * the narrower ones stand ahead of the wider ones, and FILL, which gives every word, last; the
     * assembler takes the first of a text.
     *
     * The shape has a letter for each operand: D, A registers (bits 11 to 9, 8 to 6), S a register
     * or IMM5, O OFF6, V a trap's number, W, J a distance of 9, 11 bits, F a word, B how many
     * words, T a TEXT, G the first place.
     */
    private enum Op {
        ORIG(".ORIG", "G", NEVER, 0),
        BLKW(".BLKW", "B", NEVER, 0),
        STRINGZ(".STRINGZ", "T", NEVER, 0),
        END(".END", "", NEVER, 0),
        BRNZP("BRNZP", "W", 0x0E00, 0xFE00),
        BR("BR", "W", 0x0E00, 0xFE00),
        BRN("BRN", "W", 0x0800, 0xFE00),
        BRZ("BRZ", "W", 0x0400, 0xFE00),
        BRP("BRP", "W", 0x0200, 0xFE00),
        BRNZ("BRNZ", "W", 0x0C00, 0xFE00),
        BRNP("BRNP", "W", 0x0A00, 0xFE00),
        BRZP("BRZP", "W", 0x0600, 0xFE00),
        ADD("ADD", "DAS", 0x1000, 0xF038),
        ADD_NUMBER("ADD", "DAS", 0x1020, 0xF020),
        AND("AND", "DAS", 0x5000, 0xF038),
        AND_NUMBER("AND", "DAS", 0x5020, 0xF020),
        NOT("NOT", "DA", 0x903F, 0xF03F),
        LD("LD", "DW", 0x2000, 0xF000),
        LDI("LDI", "DW", 0xA000, 0xF000),
        LEA("LEA", "DW", 0xE000, 0xF000),
        ST("ST", "DW", 0x3000, 0xF000),
        STI("STI", "DW", 0xB000, 0xF000),
        LDR("LDR", "DAO", 0x6000, 0xF000),
        STR("STR", "DAO", 0x7000, 0xF000),
        RET("RET", "", 0xC1C0, 0xFFFF),
        JMP("JMP", "A", 0xC000, 0xFE3F),
        JSR("JSR", "J", 0x4800, 0xF800),
        JSRR("JSRR", "A", 0x4000, 0xFE3F),
        RTI("RTI", "", 0x8000, 0xFFFF),
        GETC("GETC", "", 0xF020, 0xFFFF),
        OUT("OUT", "", 0xF021, 0xFFFF),
        PUTS("PUTS", "", 0xF022, 0xFFFF),
        IN("IN", "", 0xF023, 0xFFFF),
        PUTSP("PUTSP", "", 0xF024, 0xFFFF),
        HALT("HALT", "", 0xF025, 0xFFFF),
        TRAP("TRAP", "V", 0xF000, 0xFF00),
        FILL(".FILL", "F", 0, 0);

        private static final Op[] ALL = values();

        private final String text;
        private final String shape;
        private final int base;
        private final int mask;
        private final long signs;

        Op(String text, String shape, int base, int mask) {
            this.text = text;
            this.shape = shape;
            this.base = base;
            this.mask = mask;
            long packed = 0;
            for (int i = 0; i < text.length(); i++) {
                packed = packed * SIGN_BASE + signOf(text.charAt(i));
            }
            this.signs = packed;
        }

        boolean takesOneWord() {
            return base != NEVER;
        }

        boolean gives(int word) {
            return (word & mask) == base;
        }
    }

    /** A row of bytes that grows up to a bound; what would go beyond it is left out. */
    private static final class Bytes {
        private final byte[] bytes;
        private int length;

        Bytes(int most) {
            bytes = new byte[most > 0 ? most : 0];
        }

        boolean hasRoom(int more) {
            return length + more <= bytes.length;
        }

        void add(int b) {
            if (length < bytes.length) {
                bytes[length] = (byte) b;
                length++;
            }
        }

        void addFour(int number) {
            add(number >>> 24);
            add(number >>> 16);
            add(number >>> 8);
            add(number);
        }

        void addText(String text) {
            for (int i = 0; i < text.length(); i++) {
                add(text.charAt(i));
            }
        }

        void cut(int n) {
            if (n >= 0 && n <= length) {
                length = n;
            }
        }

        int byteAt(int i) {
            return i >= 0 && i < length ? bytes[i] & 255 : NONE;
        }
    }

    /** The MEMORY as it lies, in pages that are made when first needed: most are never touched. */
    private static final class Memory {
        private static final int PAGE = 256;

        private final int[][] pages = new int[PLACES / PAGE][];

        int at(int place) {
            int[] page = pages[place >> 8 & 255];
            return page == null ? 0 : page[place & 255];
        }

        void keep(int place, int v) {
            int[] page = pages[place >> 8 & 255];
            if (page == null) {
                page = new int[PAGE];
                pages[place >> 8 & 255] = page;
            }
            page[place & 255] = v & LOW_16;
        }
    }

    /** The keys that WAIT, in a ring, and what the two words of the keyboard keep. */
    private static final class Keyboard {
        private final int[] keys = new int[KEYS_MOST];
        private int first;
        private int waiting;
        private int readLast;
        private int bit14;

        void clear() {
            first = 0;
            waiting = 0;
            readLast = 0;
            bit14 = 0;
        }

        boolean add(int k) {
            if (waiting >= KEYS_MOST) {
                return false;
            }
            keys[(first + waiting) % KEYS_MOST] = k & 255;
            waiting++;
            return true;
        }

        int status() {
            return waiting > 0 ? BIT_15 | bit14 : bit14;
        }

        int data() {
            return waiting > 0 ? keys[first] : readLast;
        }

        void drop() {
            if (waiting > 0) {
                first = (first + 1) % KEYS_MOST;
                waiting--;
            }
        }
    }

    /** What was PRINTED: all of it is counted, the first bytes are kept. */
    private static final class Printer {
        private final byte[] kept = new byte[PRINTED_MOST];
        private int length;
        private int total;

        void add(int b) {
            total++;
            if (length < PRINTED_MOST) {
                kept[length] = (byte) b;
                length++;
            }
        }

        int byteAt(int i) {
            return i >= 0 && i < length ? kept[i] & 255 : NONE;
        }
    }

    private static final class Machine {
        private static final int TEXT_MOST = 4096;

        private final int[] row = new int[REGISTERS];
        private final int[] counts = new int[COUNTS];
        private final Memory memory = new Memory();
        private final Keyboard keyboard = new Keyboard();
        private final Printer printer = new Printer();
        private int state = RUNS;
        // The exception that this STEP has brought so far, or NONE. It comes when the rest of the
        // STEP has been left out.
        private int raised = NONE;

        Machine() {
            clearRegisters();
        }

        private void clearRegisters() {
            for (int i = 0; i < PC; i++) {
                row[i] = 0;
            }
            row[PC] = USER_FROM;
            row[PSR] = USER_MODE | 2;
            row[SUPER] = USER_FROM;
            row[USER] = USER_UP_TO;
        }

        void restart(Program program) {
            for (int i = 0; i < program.size; i++) {
                memory.keep(program.origin + i, program.words[i]);
            }
            clearRegisters();
            row[PC] = program.origin & LOW_16;
            keyboard.clear();
            state = RUNS;
        }

        boolean typed(int k) {
            if (!keyboard.add(k)) {
                return false;
            }
            if (state == WAITS) {
                state = RUNS;
            }
            return true;
        }

        int go(int most) {
            int done = 0;
            boolean waits = false;
            while (done < most && state != HALTED && !waits) {
                state = RUNS;
                step();
                done++;
                waits = state == WAITS;
            }
            counts[STEPS] += done;
            return done;
        }

        private void step() {
            if (keyboard.status() == (BIT_15 | BIT_14) && (row[PSR] & PRIORITY) < PRIORITY_4) {
                counts[INTERRUPTS]++;
                enter(KEY_VECTOR);
                row[PSR] = row[PSR] & ~PRIORITY | PRIORITY_4;
                return;
            }
            raised = NONE;
            int word = fetch(row[PC]);
            row[PC] = row[PC] + 1 & LOW_16;
            if (raised == NONE) {
                perform(word);
            }
            if (raised != NONE) {
                counts[EXCEPTIONS]++;
                enter(VECTORS + raised);
            }
        }

        private void perform(int word) {
            int d = word >> 9 & 7;
            int a = row[word >> 6 & 7];
            int near = row[PC] + signed(word, 9) & LOW_16;
            int offset = a + signed(word, 6) & LOW_16;
            switch (word >> 12) {
                case 0:
                    if ((d & row[PSR]) != 0) {
                        row[PC] = near;
                    }
                    break;
                case 1:
                    settle(d, a + second(word));
                    break;
                case 2:
                    receive(d, near);
                    break;
                case 3:
                    give(near, row[d]);
                    break;
                case 4:
                    callAway(word, a);
                    break;
                case 5:
                    settle(d, a & second(word));
                    break;
                case 6:
                    receive(d, offset);
                    break;
                case 7:
                    give(offset, row[d]);
                    break;
                case 8:
                    comeBack();
                    break;
                case 9:
                    settle(d, ~a);
                    break;
                case 10:
                    receive(d, fetch(near));
                    break;
                case 11:
                    give(fetch(near), row[d]);
                    break;
                case 12:
                    row[PC] = a;
                    break;
                case 13:
                    raised = 1;
                    break;
                case 14:
                    row[d] = near;
                    break;
                default:
                    trap(word & 255);
                    break;
            }
        }

        private int second(int word) {
            return (word & 32) != 0 ? signed(word, 5) : row[word & 7];
        }

        private void settle(int d, int v) {
            int word = v & LOW_16;
            row[d] = word;
            int sign = word == 0 ? 2 : word < BIT_15 ? 1 : 4;
            row[PSR] = row[PSR] & ~7 | sign;
        }

        // A place that came by a FAULT of the same STEP is none: nothing behind a FAULT is done.
        private void receive(int d, int place) {
            int word = raised == NONE ? fetch(place) : 0;
            if (raised == NONE) {
                settle(d, word);
            }
        }

        private void give(int place, int v) {
            if (raised == NONE) {
                put(place, v);
            }
        }

        private void callAway(int word, int a) {
            int behind = row[PC];
            row[PC] = (word & 0x0800) != 0 ? behind + signed(word, 11) & LOW_16 : a;
            row[7] = behind;
        }

        private void comeBack() {
            if ((row[PSR] & USER_MODE) != 0) {
                raised = 0;
                return;
            }
            row[PC] = fetch(row[6]);
            row[PSR] = fetch(row[6] + 1 & LOW_16) & PSR_BITS;
            row[6] = row[6] + 2 & LOW_16;
            if ((row[PSR] & USER_MODE) != 0) {
                row[SUPER] = row[6];
                row[6] = row[USER];
            }
        }

        private void trap(int v) {
            if (memory.at(v) != 0) {
                counts[TRAPS]++;
                enter(v);
                return;
            }
            switch (v) {
                case 32:
                case 35:
                    takeKey(v == 35);
                    break;
                case 33:
                    printer.add(row[0]);
                    break;
                case 34:
                case 36:
                    printWords(v == 36);
                    break;
                case 37:
                    state = HALTED;
                    break;
                default:
                    raised = 1;
                    break;
            }
        }

        // KBDR tells what was read at it last, and no TRAP reads there: readLast stays.
        private void takeKey(boolean shown) {
            if (keyboard.waiting == 0) {
                row[PC] = row[PC] - 1 & LOW_16;
                state = WAITS;
                return;
            }
            row[0] = keyboard.data();
            keyboard.drop();
            if (shown) {
                printer.add(row[0]);
            }
        }

        private void printWords(boolean packed) {
            for (int n = 0; n < TEXT_MOST; n++) {
                int word = look(row[0] + n & LOW_16);
                if (word == 0) {
                    return;
                }
                printer.add(word);
                if (packed && word >> 8 != 0) {
                    printer.add(word >> 8);
                }
            }
        }

        /** TO GO IN, and on to what a vector has; no vector lies at a DEVICE. */
        private void enter(int vector) {
            int before = row[PSR];
            if ((before & USER_MODE) != 0) {
                row[USER] = row[6];
                row[6] = row[SUPER];
            }
            row[PSR] = before & ~USER_MODE;
            row[6] = row[6] - 1 & LOW_16;
            put(row[6], before);
            row[6] = row[6] - 1 & LOW_16;
            put(row[6], row[PC]);
            row[PC] = memory.at(vector);
        }

        private boolean isBarred(int place) {
            return (row[PSR] & USER_MODE) != 0 && (place < USER_FROM || place >= USER_UP_TO);
        }

        /** What a READ gives, without its effects. */
        int look(int place) {
            switch (place) {
                case KBSR:
                    return keyboard.status();
                case KBDR:
                    return keyboard.data();
                case DSR:
                case MCR:
                    return BIT_15;
                case DDR:
                    return 0;
                default:
                    return memory.at(place);
            }
        }

        private int fetch(int place) {
            if (isBarred(place)) {
                raised = 2;
                return 0;
            }
            int word = look(place);
            if (place == KBDR) {
                keyboard.readLast = word;
                keyboard.drop();
            }
            return word;
        }

        private void put(int place, int v) {
            if (isBarred(place)) {
                raised = 2;
                return;
            }
            switch (place) {
                case KBSR:
                    keyboard.bit14 = v & BIT_14;
                    break;
                case DDR:
                    printer.add(v);
                    break;
                case MCR:
                    if ((v & BIT_15) == 0) {
                        state = HALTED;
                    }
                    break;
                case KBDR:
                case DSR:
                    break;
                default:
                    memory.keep(place, v);
                    break;
            }
        }
    }

    /** What a text was assembled to. */
    private static final class Program {
        private final int[] words = new int[WORDS_MOST];
        private final int[] places = new int[LABELS_MOST];
        private int size;
        private int labels;
        private int origin;

        boolean hasRoom(int more) {
            return size + more <= WORDS_MOST && origin + size + more <= PLACES;
        }

        void add(int word) {
            if (size < WORDS_MOST) {
                words[size] = word & LOW_16;
                size++;
            }
        }

        int here() {
            return origin + size;
        }
    }

    /** Reads the TAPE token by token; the end of a LINE is a token that does not go away by itself. */
    private static final class Tokens {
        private final Bytes tape;
        private int at;
        private int kind;
        private int start;
        // Of a NUMBER or REGISTER its number, of a TEXT how many bytes it means.
        private int value;
        private Op op;
        // A WORD's first ten signs, and its next ten: two that have the same of both are the same.
        private long head;
        private long tail;

        Tokens(Bytes tape) {
            this.tape = tape;
        }

        void rewind() {
            at = 0;
        }

        boolean nextLine() {
            if (at >= tape.length) {
                return false;
            }
            at++;
            return true;
        }

        void advance() {
            skipNothings();
            start = at;
            int b = tape.byteAt(at);
            if (b == NONE || b == LINE_FEED) {
                kind = LINE_END;
            } else if (b == '"') {
                readText();
            } else if (signOf(b) != 0) {
                readWord();
            } else {
                kind = BAD;
            }
        }

        private void skipNothings() {
            int b = tape.byteAt(at);
            while (at < tape.length && (b == 9 || b == 13 || b == ' ' || b == ',')) {
                at++;
                b = tape.byteAt(at);
            }
            if (b == ';') {
                while (at < tape.length && tape.byteAt(at) != LINE_FEED) {
                    at++;
                }
            }
        }

        private void readText() {
            kind = BAD;
            value = 0;
            for (int i = start + 1; i < tape.length; i++) {
                int b = tape.byteAt(i);
                if (b == '"') {
                    kind = TEXT;
                    at = i + 1;
                    return;
                }
                if (b == '\\') {
                    i++;
                    b = meaning(tape.byteAt(i)) == NONE ? NONE : ' ';
                }
                if (b < 32 || b > 126) {
                    return;
                }
                value++;
            }
        }

        private void readWord() {
            head = 0;
            tail = 0;
            boolean labelSigns = signOf(tape.byteAt(start)) <= LAST_LETTER_SIGN;
            for (int i = start; i < tape.length; i++) {
                int sign = signOf(tape.byteAt(i));
                if (sign == 0) {
                    break;
                }
                if (i - start < HEAD_MOST) {
                    head = head * SIGN_BASE + sign;
                } else {
                    tail = tail * SIGN_BASE + sign;
                }
                labelSigns = labelSigns && sign <= LAST_LABEL_SIGN;
                at = i + 1;
            }
            if (findOp()) {
                kind = NAME;
            } else if (findNumber()) {
                kind = NUMBER;
            } else if (findRegister()) {
                kind = REGISTER;
            } else {
                kind = labelSigns && at - start <= LABEL_MOST ? LABEL : BAD;
            }
        }

        private boolean findOp() {
            op = null;
            if (at - start > HEAD_MOST) {
                return false;
            }
            for (int i = 0; i < Op.ALL.length; i++) {
                if (Op.ALL[i].signs == head) {
                    op = Op.ALL[i];
                    return true;
                }
            }
            return false;
        }

        private boolean findRegister() {
            if (at - start != 2 || head < NAME_R0 || head > NAME_R0 + 7) {
                return false;
            }
            value = (int) (head - NAME_R0);
            return true;
        }

        private boolean findNumber() {
            int b = tape.byteAt(start);
            int base = b == 'X' || b == 'x' ? 16 : 10;
            int i = base == 16 || b == '#' ? start + 1 : start;
            boolean below = tape.byteAt(i) == '-';
            if (below) {
                i++;
            }
            if (i >= at || at - i > (base == 16 ? 5 : 6)) {
                return false;
            }
            int sum = 0;
            for (; i < at; i++) {
                int digit = digitOf(tape.byteAt(i));
                if (digit >= base) {
                    return false;
                }
                sum = sum * base + digit;
            }
            value = below ? -sum : sum;
            return true;
        }
    }

    /**
     * Reads the text twice: first for the LABELS and the FAULTS that need none of them, then, if
     * there was none, for the words, when every LABEL's PLACE is known.
     */
    private static final class Assembler {
        private final Bytes tape;
        private final Tokens tokens;
        private final long[] heads = new long[LABELS_MOST];
        private final long[] tails = new long[LABELS_MOST];
        private Program draft = new Program();
        private Program landed = new Program();
        private boolean assembled;
        private int fault;
        private int faultPlace = NONE;
        private boolean second;
        private boolean begun;
        private boolean ended;
        private int word;

        Assembler(Bytes tape) {
            this.tape = tape;
            tokens = new Tokens(tape);
        }

        int translate() {
            fault = 0;
            faultPlace = NONE;
            draft.labels = 0;
            second = false;
            pass();
            if (fault == 0) {
                second = true;
                pass();
            }
            if (fault == 0) {
                Program old = landed;
                landed = draft;
                draft = old;
                assembled = true;
            }
            tape.cut(0);
            return fault;
        }

        private void pass() {
            begun = false;
            ended = false;
            draft.size = 0;
            draft.origin = 0;
            tokens.rewind();
            boolean more = true;
            for (int lines = 0; lines <= tape.length && more; lines++) {
                Op op = takeStart();
                if (op != null && fault == 0) {
                    takeStatement(op);
                }
                more = fault == 0 && !ended && tokens.nextLine();
            }
            if (!begun) {
                fail(SYNTAX, tape.length);
            }
        }

        // The first FAULT along the text is the one found first, and stays.
        private void fail(int number, int place) {
            if (fault == 0) {
                fault = number;
                faultPlace = place;
            }
        }

        /** What begins behind the LINE's LABEL; null if there is nothing, or a FAULT. */
        private Op takeStart() {
            tokens.advance();
            if (begun && tokens.kind == LABEL) {
                tellLabel();
                tokens.advance();
            }
            Op op = tokens.kind == NAME ? tokens.op : null;
            if (op != null && begun != (op == Op.ORIG)) {
                return op;
            }
            if (tokens.kind != LINE_END) {
                fail(SYNTAX, tokens.start);
            }
            return null;
        }

        private void tellLabel() {
            if (second) {
                return;
            }
            int n = draft.labels;
            if (findLabel() != NONE) {
                fail(TWICE, tokens.start);
            } else if (n >= LABELS_MOST) {
                fail(ROOM, tokens.start);
            } else {
                heads[n] = tokens.head;
                tails[n] = tokens.tail;
                draft.places[n] = draft.here();
                draft.labels = n + 1;
            }
        }

        private int findLabel() {
            for (int i = 0; i < draft.labels && i < LABELS_MOST; i++) {
                if (heads[i] == tokens.head && tails[i] == tokens.tail) {
                    return i;
                }
            }
            return NONE;
        }

        private void takeStatement(Op op) {
            int place = tokens.start;
            if (op.takesOneWord() && !draft.hasRoom(1)) {
                fail(ROOM, place);
            }
            word = op.base;
            for (int i = 0; i < op.shape.length() && fault == 0; i++) {
                tokens.advance();
                takeOperand(op.shape.charAt(i), place);
            }
            if (fault != 0) {
                return;
            }
            if (op.takesOneWord()) {
                draft.add(word);
            }
            begun = true;
            ended = op == Op.END;
            tokens.advance();
            if (tokens.kind != LINE_END) {
                fail(SYNTAX, tokens.start);
            }
        }

        private void takeOperand(char form, int place) {
            switch (form) {
                case 'D':
                    takeRegister(9);
                    break;
                case 'A':
                    takeRegister(6);
                    break;
                case 'S':
                    takeSecond();
                    break;
                case 'O':
                    takeNumber(-32, 31, 63);
                    break;
                case 'V':
                    takeNumber(0, 255, 255);
                    break;
                case 'W':
                    takeWhere(9);
                    break;
                case 'J':
                    takeWhere(11);
                    break;
                case 'F':
                    takeValue();
                    break;
                case 'B':
                    takeBlock(place);
                    break;
                case 'T':
                    takeText(place);
                    break;
                default:
                    takeNumber(0, LOW_16, LOW_16);
                    draft.origin = tokens.value;
                    break;
            }
        }

        private void takeRegister(int shift) {
            if (tokens.kind != REGISTER) {
                fail(SYNTAX, tokens.start);
            } else {
                word |= tokens.value << shift;
            }
        }

        private void takeNumber(int least, int most, int mask) {
            if (tokens.kind != NUMBER) {
                fail(SYNTAX, tokens.start);
            } else if (tokens.value < least || tokens.value > most) {
                fail(RANGE, tokens.start);
            } else {
                word |= tokens.value & mask;
            }
        }

        private void takeSecond() {
            if (tokens.kind == REGISTER) {
                takeRegister(0);
            } else {
                takeNumber(-16, 15, 31);
                word |= 32;
            }
        }

        private void takeWhere(int bits) {
            int half = 1 << (bits - 1);
            if (tokens.kind != LABEL) {
                takeNumber(-half, half - 1, 2 * half - 1);
                return;
            }
            int place = placeOfLabel();
            int distance = place - (draft.here() + 1);
            if (second && (distance < -half || distance >= half)) {
                fail(FAR, tokens.start);
            }
            word |= distance & 2 * half - 1;
        }

        private void takeValue() {
            if (tokens.kind == LABEL) {
                word = placeOfLabel() & LOW_16;
            } else {
                takeNumber(-32768, LOW_16, LOW_16);
            }
        }

        private int placeOfLabel() {
            int i = second ? findLabel() : NONE;
            if (i >= 0 && i < LABELS_MOST) {
                return draft.places[i];
            }
            if (second) {
                fail(UNKNOWN, tokens.start);
            }
            return 0;
        }

        private void takeBlock(int place) {
            takeNumber(1, WORDS_MOST, 0);
            if (fault == 0 && !draft.hasRoom(tokens.value)) {
                fail(ROOM, place);
            }
            for (int i = 0; fault == 0 && i < tokens.value; i++) {
                draft.add(0);
            }
        }

        private void takeText(int place) {
            if (tokens.kind != TEXT) {
                fail(SYNTAX, tokens.start);
                return;
            }
            if (!draft.hasRoom(tokens.value + 1)) {
                fail(ROOM, place);
            }
            int i = tokens.start + 1;
            for (int n = 0; n < tokens.value; n++) {
                int b = tape.byteAt(i);
                if (b == '\\') {
                    i++;
                    b = meaning(tape.byteAt(i));
                }
                draft.add(b);
                i++;
            }
            draft.add(0);
        }
    }

    /** Tells a word as the LINE that the assembler makes the same word of. */
    private static final class Writer {
        private static final String DIGITS = "0123456789ABCDEF";

        private final Bytes line = new Bytes(LINE_MOST);

        void tell(int word) {
            line.cut(0);
            Op op = opOf(word);
            line.addText(op.text);
            for (int i = 0; i < op.shape.length(); i++) {
                line.addText(i == 0 ? " " : ", ");
                tellOperand(op.shape.charAt(i), word);
            }
        }

        private static Op opOf(int word) {
            for (int i = 0; i < Op.ALL.length; i++) {
                if (Op.ALL[i].gives(word)) {
                    return Op.ALL[i];
                }
            }
            return Op.FILL;
        }

        private void tellOperand(char form, int word) {
            switch (form) {
                case 'D':
                    tellRegister(word >> 9 & 7);
                    break;
                case 'A':
                    tellRegister(word >> 6 & 7);
                    break;
                case 'S':
                    if ((word & 32) != 0) {
                        tellNumber(signed(word, 5));
                    } else {
                        tellRegister(word & 7);
                    }
                    break;
                case 'O':
                    tellNumber(signed(word, 6));
                    break;
                case 'W':
                    tellNumber(signed(word, 9));
                    break;
                case 'J':
                    tellNumber(signed(word, 11));
                    break;
                case 'V':
                    tellHexadecimals(word, 2);
                    break;
                default:
                    tellHexadecimals(word, 4);
                    break;
            }
        }

        private void tellRegister(int r) {
            line.add('R');
            line.add('0' + r);
        }

        private void tellNumber(int n) {
            line.addText(n < 0 ? "#-" : "#");
            int left = n < 0 ? -n : n;
            int unit = 1;
            while (unit < 1000 && unit * 10 <= left) {
                unit *= 10;
            }
            for (; unit > 0; unit /= 10) {
                line.add('0' + left / unit % 10);
            }
        }

        private void tellHexadecimals(int word, int digits) {
            line.add('x');
            for (int i = digits - 1; i >= 0; i--) {
                line.add(DIGITS.charAt(word >> 4 * i & 15));
            }
        }
    }
}
