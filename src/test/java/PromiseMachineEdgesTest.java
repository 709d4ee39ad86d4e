import java.util.NoSuchElementException;

/** The boundary cases of promises 1, 8 to 15 and 19 to 21 (the machine). Each method holds the sentence that it quotes. */
public final class PromiseMachineEdgesTest {
    private static final Check C = new Check("PromiseMachineEdgesTest");
    private static final int NONE = SixteenDesk.NONE;

    public static void main(String[] args) {
        newObject();
        call512();
        loadWritesNoDevice();
        loadReachesTheLastWord();
        loadSetsPc();
        loadSetsRegisters();
        loadClearsKeys();
        loadRunsAgain();
        loadKeepsWhatWasPrinted();
        loadOfNothing();
        keyComesBehind();
        keyEndsAWait();
        keyRefuses();
        runAtMost();
        runToAHalt();
        runToAWait();
        runRefuses();
        runOfOneThatWaits();
        states();
        registersByNumber();
        registerThatIsNone();
        setTakes16Bits();
        setRefuses();
        peekTakes16Bits();
        peekOfADevice();
        pokeTakes16Bits();
        pokeWritesNoDevice();
        printedGoesRound();
        printKeeps4000();
        printThatIsNone();
        countsByNumber();
        countsAreLarge();
        countOfOthers();
        C.finish();
    }

    private static void newObject() {
        C.sentence("Promise 1", "All as told at first; an empty TAPE, nothing assembled, nothing PRINTED, no key; it RUNS.");
        SixteenDesk x = new SixteenDesk();
        C.due("registers", Check.registers(x), "0 0 0 0 0 0 0 0 3000 8002 3000 FE00");
        C.due("an empty TAPE: end(1)", x.end(1), false);
        C.due("nothing assembled: load()", x.load(), false);
        C.due("nothing assembled: told(2)", x.told(2), 0);
        C.due("nothing PRINTED: printed()", x.printed(), 0);
        C.due("nothing PRINTED: print(0)", x.print(0), NONE);
        C.due("no key: count(4)", x.count(4), 0);
        C.due("no key: KBSR", x.peek(Check.KBSR), 0);
        C.due("it RUNS", x.state(), 0);
        for (int what = 0; what < 4; what++) {
            C.due("count(" + what + ")", x.count(what), 0);
        }
        x.poke(7, 9);
        x.key(1);
        SixteenDesk y = new SixteenDesk();
        C.due("what is done with one is not done with another", y.peek(7) + y.count(4), 0);
    }

    private static void call512() {
        C.sentence("What it is", "An object is used for at most 512 calls after it has been made");
        SixteenDesk x = new SixteenDesk();
        for (int i = 0; i < 511; i++) {
            x.poke(i * 128, i + 1);
        }
        C.due("its 512th call", x.peek(510 * 128), 511);
        SixteenDesk y = Check.desk(Check.USERS, 0x3000, 0x1261, 0x0FFE);
        for (int call = 5; call <= 510; call++) {
            y.run(20000);
        }
        C.due("its 511th call", y.run(19999), 19999);
        C.due("its 512th call", y.count(0), 506 * 20000 + 19999);
    }

    private static void loadWritesNoDevice() {
        C.sentence("Promise 8", "What was assembled comes to the MEMORY (as it lies, no DEVICE is written)");
        SixteenDesk x = new SixteenDesk();
        Check.assemble(x, ".ORIG 65023\n.FILL 7\n.FILL x4000\n.FILL 1\n.FILL 2\n.FILL 3\n.FILL 0\n.FILL 5\n.FILL 65\n.FILL 9");
        C.due("load()", x.load(), true);
        int[] due = {7, 0, 1, 0, 3, 32768, 5, 0, 9};
        for (int i = 0; i < due.length; i++) {
            C.due("peek(" + (65023 + i) + ")", x.peek(65023 + i), due[i]);
        }
        C.due("DDR was not written", x.printed(), 0);
        Check.assemble(x, ".ORIG 65534\n.FILL 0\n.FILL 6");
        x.load();
        C.due("MCR was not written", x.state(), 0);
        C.due("MCR", x.peek(65534), 32768);
    }

    private static void loadReachesTheLastWord() {
        C.sentence("Promise 8", "What was assembled comes to the MEMORY");
        SixteenDesk x = new SixteenDesk();
        x.poke(0, 11);
        x.poke(61439, 12);
        x.poke(61440, 13);
        x.poke(65533, 14);
        Check.assemble(x, ".ORIG 61440\n.BLKW 4095\n.FILL 8");
        x.load();
        C.due("the first WORD", x.peek(61440), 0);
        C.due("one between", x.peek(65533), 0);
        C.due("the last WORD", x.peek(65535), 8);
        C.due("the WORD behind it does not change", x.peek(0), 11);
        C.due("the WORD ahead of it does not change", x.peek(61439), 12);
        Check.assemble(x, ".ORIG 0\n.FILL 1");
        x.load();
        C.due("a program at 0", x.peek(0), 1);
        C.due("what was loaded before lies there still", x.peek(65535), 8);
        x.poke(0, 99);
        x.load();
        C.due("load() of the same once more", x.peek(0), 1);
    }

    private static void loadSetsPc() {
        C.sentence("Promise 8", "PC is its first place");
        int[] places = {0, 12288, 65535};
        for (int place : places) {
            C.due("PC", Check.loaded(".ORIG " + place + "\nHALT").register(8), place);
            C.due("PC, of no WORDS", Check.loaded(".ORIG " + place).register(8), place);
        }
    }

    private static void loadSetsRegisters() {
        C.sentence("Promise 8", "all registers, PSR, SUPER, USER are as at first");
        SixteenDesk x = Check.loaded(".ORIG x3005\nHALT");
        for (int r = 0; r < 12; r++) {
            x.set(r, 0x7777);
        }
        x.load();
        C.due("registers", Check.registers(x), "0 0 0 0 0 0 0 0 3005 8002 3000 FE00");
    }

    private static void loadClearsKeys() {
        C.sentence("Promise 8", "no key WAITS, bit 14 of KBSR is 0; what was read at KBDR is 0;");
        SixteenDesk x = Check.loaded(".ORIG x3000\nHALT");
        x.key(5);
        for (int k = 0; k < 100; k++) {
            x.key(6);
        }
        Check.read(x, Check.KBDR);
        x.key(7);
        Check.store(x, Check.KBSR, 0x4000);
        C.due("100 keys WAIT", x.count(4), 100);
        x.load();
        C.due("count(4)", x.count(4), 0);
        C.due("KBSR", x.peek(Check.KBSR), 0);
        C.due("KBDR", x.peek(Check.KBDR), 0);
        C.due("KBDR as the machine READS it", Check.read(x, Check.KBDR), 0);
        C.due("100 keys go in again: the first", x.key(8), true);
        C.due("it is the one that waits longest", x.peek(Check.KBDR), 8);
    }

    private static void loadRunsAgain() {
        C.sentence("Promise 8", "it RUNS;");
        SixteenDesk halted = Check.loaded(".ORIG x3000\nHALT");
        halted.run(1);
        C.due("HALTED", halted.state(), 1);
        halted.load();
        C.due("state()", halted.state(), 0);
        C.due("run(1)", halted.run(1), 1);
        SixteenDesk waits = Check.loaded(".ORIG x3000\nGETC");
        waits.run(1);
        C.due("WAITS", waits.state(), 2);
        waits.load();
        C.due("state()", waits.state(), 0);
    }

    private static void loadKeepsWhatWasPrinted() {
        C.sentence("Promise 8", "what was PRINTED stays: true;");
        SixteenDesk x = Check.loaded(".ORIG x3000\nLEA R0, #2\nOUT\nHALT");
        x.run(3);
        C.due("load()", x.load(), true);
        C.due("printed()", x.printed(), 1);
        C.due("print(0)", x.print(0), 3);
        x.run(3);
        C.due("what is PRINTED then comes behind it", Check.bytes(x), "3 3");
    }

    private static void loadOfNothing() {
        C.sentence("Promise 8", "false, and nothing happens, if nothing was assembled.");
        SixteenDesk x = Check.desk(0x0304, 0x4000, 0xF025);
        x.set(0, 5);
        x.key(9);
        x.run(1);
        C.due("load() ahead of any", x.load(), false);
        C.due("registers", Check.registers(x), "5 0 0 0 0 0 0 0 4001 304 3000 FE00");
        C.due("it is HALTED", x.state(), 1);
        C.due("the key WAITS", x.count(4), 1);
        Check.assemble(x, ".ORIG 9\nHALT !");
        C.due("load() behind a FAULT", x.load(), false);
        C.due("registers", Check.registers(x), "5 0 0 0 0 0 0 0 4001 304 3000 FE00");
        C.due("it is HALTED", x.state(), 1);
        Check.assemble(x, ".ORIG 9");
        C.due("load() of no WORDS", x.load(), true);
    }

    private static void keyComesBehind() {
        C.sentence("Promise 9", "A key (its lowest 8 bits) comes behind those that WAIT;");
        SixteenDesk x = new SixteenDesk();
        int[][] rows = {{0, 0}, {255, 255}, {256, 0}, {-1, 255}, {0x12345678, 0x78}, {Integer.MIN_VALUE, 0}, {Integer.MAX_VALUE, 255}};
        for (int[] row : rows) {
            C.due("key(" + row[0] + ")", x.key(row[0]), true);
        }
        for (int[] row : rows) {
            C.due("KBDR", Check.read(x, Check.KBDR), row[1]);
        }
    }

    private static void keyEndsAWait() {
        C.sentence("Promise 9", "a machine that WAITS RUNS again: true;");
        SixteenDesk x = Check.desk(Check.USERS, 0x3000, 0xF020, 0xF025);
        C.due("key of one that RUNS", x.key(1), true);
        C.due("it RUNS", x.state(), 0);
        x.set(8, 0x3000);
        x.run(1);
        x.set(8, 0x3000);
        x.run(1);
        C.due("it WAITS", x.state(), 2);
        C.due("key", x.key(2), true);
        C.due("it RUNS", x.state(), 0);
        C.due("run(9)", x.run(9), 2);
        C.due("it is HALTED", x.state(), 1);
        C.due("key of one that is HALTED", x.key(3), true);
        C.due("it is HALTED still", x.state(), 1);
        C.due("the key WAITS", x.count(4), 1);
    }

    private static void keyRefuses() {
        C.sentence("Promise 9", "false if 100 wait.");
        SixteenDesk x = new SixteenDesk();
        for (int k = 1; k <= 100; k++) {
            C.due("key " + k, x.key(k), true);
        }
        C.due("the 101st key", x.key(101), false);
        C.due("once more", x.key(102), false);
        C.due("count(4)", x.count(4), 100);
        C.due("the first of them", Check.read(x, Check.KBDR), 1);
        C.due("a key when 99 wait", x.key(103), true);
        C.due("a key when 100 wait", x.key(104), false);
        Check.readyToRead(x, Check.KBDR);
        for (int k = 2; k <= 100; k++) {
            x.run(2);
            C.due("the key " + k, x.register(1), k);
        }
        C.due("the 100th of them", x.peek(Check.KBDR), 103);
        C.due("the one behind them", Check.read(x, Check.KBDR), 103);
        C.due("none is left", x.count(4), 0);
    }

    private static void runAtMost() {
        C.sentence("Promise 10", "At most so many STEPS are done");
        SixteenDesk x = Check.desk(Check.USERS, 0x3000, 0x1261, 0x0FFE);
        C.due("run(0)", x.run(0), 0);
        C.due("PC", x.register(8), 0x3000);
        C.due("run(1)", x.run(1), 1);
        C.due("PC", x.register(8), 0x3001);
        C.due("R1", x.register(1), 1);
        C.due("run(2)", x.run(2), 2);
        C.due("R1", x.register(1), 2);
        C.due("run(20000)", x.run(20000), 20000);
        C.due("R1", x.register(1), 10002);
        C.due("run(19999)", x.run(19999), 19999);
        C.due("count(0)", x.count(0), 40002);
    }

    private static void runToAHalt() {
        C.sentence("Promise 10", "fewer if it is HALTED, or WAITS (the one in which that comes counts): how many.");
        SixteenDesk x = Check.desk(Check.USERS, 0x3000, 0x1261, 0xF025, 0x1261);
        C.due("run(20000)", x.run(20000), 2);
        C.due("R1", x.register(1), 1);
        C.due("run(20000) of one that is HALTED", x.run(20000), 0);
        C.due("run(1) of one that is HALTED", x.run(1), 0);
        C.due("run(0) of one that is HALTED", x.run(0), 0);
        C.due("count(0)", x.count(0), 2);
        C.due("PC", x.register(8), 0x3002);
        SixteenDesk mcr = Check.desk(Check.SUPERVISORS, 0x3000, 0xB201, 0x1261, Check.MCR);
        C.due("run(5), with MCR written", mcr.run(5), 1);
        SixteenDesk just = Check.desk(Check.USERS, 0x3000, 0x1261, 0xF025);
        C.due("run(2), the second of which HALTS", just.run(2), 2);
        C.due("state()", just.state(), 1);
    }

    private static void runToAWait() {
        C.sentence("Promise 10", "fewer if it is HALTED, or WAITS (the one in which that comes counts): how many.");
        SixteenDesk x = Check.desk(Check.USERS, 0x3000, 0x1261, 0xF020, 0xF023, 0x1261);
        C.due("run(20000)", x.run(20000), 2);
        C.due("PC", x.register(8), 0x3001);
        C.due("count(0)", x.count(0), 2);
        x.key(1);
        C.due("run(20000) with one key", x.run(20000), 2);
        C.due("PC", x.register(8), 0x3002);
        C.due("state()", x.state(), 2);
    }

    private static void runRefuses() {
        C.sentence("Promise 10", "IllegalArgumentException: not 0 to 20000.");
        SixteenDesk x = Check.desk(Check.USERS, 0x3000, 0xF025);
        int[] refused = {-1, 20001, Integer.MIN_VALUE, Integer.MAX_VALUE};
        for (int halted = 0; halted < 2; halted++) {
            for (int steps : refused) {
                C.dueThrow("run(" + steps + ")", IllegalArgumentException.class, () -> x.run(steps));
            }
            C.due("count(0)", x.count(0), halted);
            x.run(1);
        }
        C.due("run(20000) of one that is HALTED", x.run(20000), 0);
    }

    private static void runOfOneThatWaits() {
        C.sentence("Promise 10", "(A machine that WAITS does its STEP again, and WAITS again.)");
        SixteenDesk x = Check.desk(Check.USERS, 0x3000, 0xF020, 0x1261);
        x.run(5);
        C.due("run(0)", x.run(0), 0);
        C.due("it WAITS", x.state(), 2);
        C.due("run(5)", x.run(5), 1);
        C.due("it WAITS again", x.state(), 2);
        C.due("run(1)", x.run(1), 1);
        C.due("count(0)", x.count(0), 3);
        C.due("PC", x.register(8), 0x3000);
        x.set(8, 0x3001);
        C.due("it WAITS until it does another STEP", x.state(), 2);
        C.due("run(1)", x.run(1), 1);
        C.due("it RUNS", x.state(), 0);
        C.due("R1", x.register(1), 1);
    }

    private static void states() {
        C.sentence("Promise 11", "0 RUNS, 1 HALTED, 2 WAITS.");
        SixteenDesk x = Check.desk(Check.USERS, 0x3000, 0xF020, 0xF025);
        C.due("state() at first", x.state(), 0);
        x.run(1);
        C.due("state() of one that WAITS", x.state(), 2);
        x.key(1);
        C.due("state() with a key", x.state(), 0);
        x.run(1);
        C.due("state() behind a STEP", x.state(), 0);
        x.run(1);
        C.due("state() behind HALT", x.state(), 1);
    }

    private static void registersByNumber() {
        C.sentence("Promise 12", "R0 to R7 (0 .. 7), 8 PC, 9 PSR, 10 SUPER, 11 USER.");
        SixteenDesk x = Check.desk(0x8104, 0x3000, 0xD000);
        for (int r = 0; r < 8; r++) {
            x.set(r, 0x100 + r);
        }
        x.poke(257, 0x1111);
        x.run(1);
        C.due("registers", Check.registers(x), "100 101 102 103 104 105 2FFE 107 1111 104 3000 106");
    }

    private static void registerThatIsNone() {
        C.sentence("Promise 12", "NoSuchElementException: another one.");
        SixteenDesk x = new SixteenDesk();
        C.due("register(0)", x.register(0), 0);
        C.due("register(11)", x.register(11), 65024);
        int[] none = {-1, 12, Integer.MIN_VALUE, Integer.MAX_VALUE};
        for (int r : none) {
            C.dueThrow("register(" + r + ")", NoSuchElementException.class, () -> x.register(r));
        }
    }

    private static void setTakes16Bits() {
        C.sentence("Promise 13", "A register (as above) becomes v's lowest 16 bits (of PSR bits 15, 10 to 8, 2 to 0): true;");
        int[] values = {0, 65535, 65536, 65537, -1, 0x12348765, Integer.MIN_VALUE, Integer.MAX_VALUE};
        SixteenDesk x = new SixteenDesk();
        for (int r = 0; r < 12; r++) {
            for (int v : values) {
                C.due("set(" + r + ", " + v + ")", x.set(r, v), true);
                C.due("register(" + r + ")", x.register(r), v & (r == 9 ? 0x8707 : 65535));
            }
        }
        SixteenDesk mode = new SixteenDesk();
        mode.set(6, 0x5000);
        mode.set(9, 0x0001);
        C.due("PSR alone changes, no stack", Check.registers(mode), "0 0 0 0 0 0 5000 0 3000 1 3000 FE00");
    }

    private static void setRefuses() {
        C.sentence("Promise 13", "false if there is none such.");
        SixteenDesk x = new SixteenDesk();
        int[] none = {-1, 12, Integer.MIN_VALUE, Integer.MAX_VALUE};
        for (int r : none) {
            C.due("set(" + r + ", 5)", x.set(r, 5), false);
        }
        C.due("registers", Check.registers(x), "0 0 0 0 0 0 0 0 3000 8002 3000 FE00");
    }

    private static void peekTakes16Bits() {
        C.sentence("Promise 14", "The WORD that lies at a place (its lowest 16 bits);");
        SixteenDesk x = new SixteenDesk();
        x.poke(0, 5);
        x.poke(65535, 6);
        int[] first = {0, 65536, -65536, 131072, Integer.MIN_VALUE};
        for (int place : first) {
            C.due("peek(" + place + ")", x.peek(place), 5);
        }
        int[] last = {65535, -1, 131071, Integer.MAX_VALUE};
        for (int place : last) {
            C.due("peek(" + place + ")", x.peek(place), 6);
        }
        C.due("a DEVICE by its lowest 16 bits", x.peek(Check.DSR - 65536), 32768);
    }

    private static void peekOfADevice() {
        C.sentence("Promise 14", "of a DEVICE what READ would give, but no key is gone.");
        SixteenDesk x = new SixteenDesk();
        C.due("KBSR without a key", x.peek(Check.KBSR), 0);
        C.due("KBDR without a key", x.peek(Check.KBDR), 0);
        x.key(7);
        x.key(8);
        C.due("KBSR with a key", x.peek(Check.KBSR), 32768);
        for (int i = 0; i < 3; i++) {
            C.due("KBDR with keys", x.peek(Check.KBDR), 7);
            C.due("no key is gone", x.count(4), 2);
        }
        Check.read(x, Check.KBDR);
        Check.read(x, Check.KBDR);
        C.due("KBDR when none waits", x.peek(Check.KBDR), 8);
        C.due("DSR", x.peek(Check.DSR), 32768);
        C.due("DDR", x.peek(Check.DDR), 0);
        C.due("MCR", x.peek(Check.MCR), 32768);
        C.due("users' mode bars no peek", new SixteenDesk().peek(Check.MCR), 32768);
    }

    private static void pokeTakes16Bits() {
        C.sentence("Promise 15", "A WORD (its lowest 16 bits) comes to lie at a place (its lowest 16 bits)");
        int[] values = {0, 65535, 65536, 65537, -1, Integer.MIN_VALUE, Integer.MAX_VALUE};
        int[][] places = {{0, 0}, {65535, 65535}, {65536, 0}, {-1, 65535}, {0x12345678, 0x5678}, {Integer.MIN_VALUE, 0}, {Integer.MAX_VALUE, 65535}};
        SixteenDesk x = new SixteenDesk();
        for (int[] place : places) {
            for (int v : values) {
                x.poke(place[1], 0x0555);
                x.poke(place[0], v);
                C.due("poke(" + place[0] + ", " + v + ")", x.peek(place[1]), v & 65535);
            }
        }
    }

    private static void pokeWritesNoDevice() {
        C.sentence("Promise 15", "no DEVICE is written (what lies at a DEVICE's place is never seen).");
        SixteenDesk x = new SixteenDesk();
        int[] devices = {Check.KBSR, Check.KBDR, Check.DSR, Check.DDR, Check.MCR};
        int[] due = {0, 0, 32768, 0, 32768};
        for (int i = 0; i < devices.length; i++) {
            x.poke(devices[i], 0x4041);
            C.due("peek(" + devices[i] + ")", x.peek(devices[i]), due[i]);
            C.due("READ at it", Check.read(x, devices[i]), due[i]);
        }
        C.due("DDR: nothing is PRINTED", x.printed(), 0);
        C.due("MCR: it RUNS", x.state(), 0);
        x.set(9, Check.USERS);
        x.set(8, 0x3000);
        x.key(1);
        x.run(1);
        C.due("KBSR: no interrupt", x.count(1), 0);
        x.poke(Check.KBDR, 9);
        C.due("KBDR", x.peek(Check.KBDR), 1);
    }

    // 54 runs of 10,000 PUTSP, 8,192 bytes each: past 2 to the 31st, and past 2 to the 32nd.
    private static void printedGoesRound() {
        C.sentence("Promise 19", "How many bytes were PRINTED (going round at 32 bits).");
        SixteenDesk x = Check.longText(0x4142, "P PUTSP\nBR P");
        C.due("printed() ahead of it", x.printed(), 0);
        C.due("PC", x.register(8), 0x3008);
        long total = 0;
        for (int i = 0; i < 54; i++) {
            x.run(20000);
            total += 10000 * 8192;
            C.due("printed() of " + total, x.printed(), (int) total);
        }
        C.due("it went round", total > 1L << 32, true);
        C.due("the first bytes are kept: print(0)", x.print(0), 0x42);
        C.due("print(3999)", x.print(3999), 0x41);
        C.due("print(4000)", x.print(4000), NONE);
    }

    private static void printKeeps4000() {
        C.sentence("Promise 20", "Byte i of what was PRINTED, of which the first 4,000 are kept;");
        SixteenDesk x = Check.longText(0x4142, "PUTS\nHALT");
        x.run(1);
        C.due("printed()", x.printed(), 4096);
        C.due("print(0)", x.print(0), 0x42);
        C.due("print(3999)", x.print(3999), 0x42);
        C.due("print(4000)", x.print(4000), NONE);
        C.due("print(4095)", x.print(4095), NONE);
        SixteenDesk y = Check.longText(0x4142, "OUT\nPUTSP\nHALT");
        y.run(2);
        C.due("printed()", y.printed(), 8193);
        C.due("print(0)", y.print(0), 0);
        C.due("print(3998)", y.print(3998), 0x41);
        C.due("print(3999), the first byte of a pair", y.print(3999), 0x42);
        C.due("print(4000)", y.print(4000), NONE);
        SixteenDesk z = Check.desk(Check.USERS, 0x3000, 0xF021, 0xF021);
        z.set(0, 255);
        z.run(1);
        z.set(0, 0);
        z.run(1);
        C.due("the bytes 255 and 0", Check.bytes(z), "255 0");
    }

    private static void printThatIsNone() {
        C.sentence("Promise 20", "NONE if there is none such.");
        SixteenDesk x = Check.desk(Check.USERS, 0x3000, 0xF021);
        C.due("print(0) ahead of any", x.print(0), NONE);
        x.run(1);
        C.due("print(0)", x.print(0), 0);
        int[] none = {1, -1, 3999, 4000, Integer.MIN_VALUE, Integer.MAX_VALUE};
        for (int i : none) {
            C.due("print(" + i + ")", x.print(i), NONE);
        }
    }

    private static void countsByNumber() {
        C.sentence("Promise 21", "0 STEPS done, 1 interrupts, 2 exceptions, 3 TRAPS that went in, 4 keys that WAIT");
        SixteenDesk x = new SixteenDesk();
        Check.store(x, Check.KBSR, 0x4000);
        x.poke(384, 0x1000);
        x.poke(0x80, 0x1000);
        x.poke(257, 0x1001);
        int[] words = {0xF080, 0xF021, 0xD000, 0xF099};
        for (int i = 0; i < words.length; i++) {
            x.poke(0x1000 + i, words[i]);
        }
        x.set(9, Check.USERS);
        x.key(1);
        x.key(2);
        int[][] due = {
            // STEPS, interrupts, exceptions, TRAPS that went in
            {2, 1, 0, 0}, {3, 1, 0, 1}, {4, 1, 0, 2}, {5, 1, 0, 3},
        };
        for (int[] row : due) {
            x.run(1);
            dueCounts(x, row);
        }
        x.set(8, 0x1001);
        x.run(1);
        dueCounts(x, new int[] {6, 1, 0, 3});
        x.run(1);
        dueCounts(x, new int[] {7, 1, 1, 3});
        x.set(8, 0x1003);
        x.run(1);
        dueCounts(x, new int[] {8, 1, 2, 3});
        C.due("count(4)", x.count(4), 2);
        Check.assemble(x, ".ORIG 9\nHALT");
        x.load();
        dueCounts(x, new int[] {8, 1, 2, 3});
        C.due("count(4) behind load()", x.count(4), 0);
    }

    private static void dueCounts(SixteenDesk x, int[] due) {
        for (int what = 0; what < due.length; what++) {
            C.due("count(" + what + ")", x.count(what), due[what]);
        }
    }

    // 512 calls do at most some ten million STEPS, so no count goes round; but none stops or goes round at 16 bits either.
    private static void countsAreLarge() {
        C.sentence("Promise 21", "(0 to 3 go round at 32 bits)");
        SixteenDesk interrupts = new SixteenDesk();
        Check.store(interrupts, Check.KBSR, 0x4000);
        interrupts.poke(384, 0x1000);
        interrupts.poke(0x1000, 0x8000);
        interrupts.set(9, Check.USERS);
        interrupts.key(1);
        SixteenDesk exceptions = Check.desk(Check.USERS, 0x3000, 0xD000, 0x0FFE);
        exceptions.poke(257, 0x1000);
        exceptions.poke(0x1000, 0x8000);
        SixteenDesk traps = Check.desk(Check.USERS, 0x3000, 0xF080, 0x0FFE);
        traps.poke(0x80, 0x1000);
        traps.poke(0x1000, 0x8000);
        for (int i = 0; i < 12; i++) {
            interrupts.run(20000);
            exceptions.run(20000);
            traps.run(20000);
        }
        C.due("STEPS", interrupts.count(0), 240001);
        C.due("interrupts", interrupts.count(1), 120000);
        C.due("exceptions", exceptions.count(2), 80000);
        C.due("TRAPS that went in", traps.count(3), 80000);
    }

    private static void countOfOthers() {
        C.sentence("Promise 21", "NoSuchElementException: another what.");
        SixteenDesk x = new SixteenDesk();
        C.due("count(0)", x.count(0), 0);
        C.due("count(4)", x.count(4), 0);
        int[] none = {-1, 5, Integer.MIN_VALUE, Integer.MAX_VALUE};
        for (int what : none) {
            C.dueThrow("count(" + what + ")", NoSuchElementException.class, () -> x.count(what));
        }
    }
}
