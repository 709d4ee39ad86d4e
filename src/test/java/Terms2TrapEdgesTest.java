/** The boundary cases that 'Terms' 2 names of RTI, TRAP and TO GO IN. Each method holds the sentence that it quotes. */
public final class Terms2TrapEdgesTest {
    private static final Check C = new Check("Terms2TrapEdgesTest");

    public static void main(String[] args) {
        rtiOfUsers();
        rtiReadsInOrder();
        rtiChangesStacks();
        trapGoesInWhenItsWordIsNot0();
        trapKeepsPriority();
        trapReadsItsWordLate();
        trapTakesAKey();
        trapPrintsAByte();
        trapPrintsWords();
        trapPrintsAtMost();
        trapPrintsPairs();
        trapPrintsPairsAtMost();
        trapTakesAndPrintsAKey();
        trapHalts();
        otherTraps();
        trapWaits();
        trapLeavesSigns();
        trapsReadAnyWord();
        goInFromUsers();
        goInFromSupervisors();
        goInWritesDevices();
        exceptionsKnowThePcBehind();
        interruptHasPriority4();
        vectorsAreReadLate();
        allInTheSupervisorsMode();
        C.finish();
    }

    private static void rtiOfUsers() {
        C.sentence("Terms 2", "RTI: in the mode of users exception 0.");
        SixteenDesk x = Check.desk(0x8304, 0x3000, 0x8000);
        x.poke(256, 0x1000);
        x.set(6, 0x5000);
        x.run(1);
        C.due("PC", x.register(8), 0x1000);
        C.due("exceptions", x.count(2), 1);
        C.due("R6", x.register(6), 0x2FFE);
        C.due("USER", x.register(11), 0x5000);
        C.due("PC as it was", x.peek(0x2FFE), 0x3001);
        C.due("PSR as it was", x.peek(0x2FFF), 0x8304);
    }

    private static void rtiReadsInOrder() {
        C.sentence("Terms 2", "Else what is READ at R6 comes to PC, then what is READ at R6 + 1 to PSR (of it bits 15, 10 to 8, 2 to 0), R6 is 2 more");
        SixteenDesk x = Check.desk(Check.SUPERVISORS, 0x3000, 0x8000);
        x.set(6, 0x2FFE);
        x.poke(0x2FFE, 65535);
        x.poke(0x2FFF, 0x7FFF);
        x.run(1);
        C.due("registers", Check.registers(x), "0 0 0 0 0 0 3000 0 FFFF 707 3000 FE00");
        SixteenDesk key = Check.desk(Check.SUPERVISORS, 0x3000, 0x8000);
        key.set(6, Check.KBDR);
        key.key(9);
        key.poke(Check.KBDR + 1, 0x0204);
        key.run(1);
        C.due("PC from KBDR", key.register(8), 9);
        C.due("PSR from behind it", key.register(9), 0x0204);
        C.due("the key is gone", key.count(4), 0);
        SixteenDesk last = Check.desk(Check.SUPERVISORS, 0x3000, 0x8000);
        last.set(6, Check.KBDR - 1);
        last.key(4);
        last.key(5);
        last.run(1);
        C.due("PSR from KBDR", last.register(9), 4);
        C.due("one key is gone", last.count(4), 1);
    }

    private static void rtiChangesStacks() {
        C.sentence("Terms 2", "if the mode is that of users then: SUPER is R6, R6 is USER.");
        int[][] rows = {{0x8000, 0x4321, 1}, {0x0000, 1, 0x3000}};
        for (int[] row : rows) {
            SixteenDesk x = Check.desk(Check.SUPERVISORS, 0x3000, 0x8000);
            x.set(6, 65535);
            x.set(11, 0x4321);
            x.poke(0, row[0]);
            x.run(1);
            C.due("R6", x.register(6), row[1]);
            C.due("SUPER", x.register(10), row[2]);
            C.due("USER", x.register(11), 0x4321);
        }
    }

    private static void trapGoesInWhenItsWordIsNot0() {
        C.sentence("Terms 2", "TRAP: if the WORD V of the MEMORY is not 0: TO GO IN");
        int[] vectors = {0, 1, 31, 32, 33, 34, 35, 36, 37, 38, 255};
        int[] places = {1, 0x1400, 65535};
        for (int v : vectors) {
            for (int place : places) {
                SixteenDesk x = Check.desk(Check.USERS, 0x3000, 0xF000 | v);
                x.poke(v, place);
                x.run(1);
                C.due("PC behind TRAP " + v, x.register(8), place);
                C.due("TRAPS that went in", x.count(3), 1);
                C.due("exceptions", x.count(2), 0);
                C.due("it RUNS", x.state(), 0);
                C.due("PC as it was", x.peek(0x2FFE), 0x3001);
                C.due("R7 stays", x.register(7), 0);
                C.due("nothing is PRINTED", x.printed(), 0);
            }
        }
    }

    private static void trapKeepsPriority() {
        C.sentence("Terms 2", "TO GO IN, PRIORITY as it was");
        for (int priority = 0; priority < 8; priority++) {
            SixteenDesk x = Check.desk(0x8001 | priority << 8, 0x3000, 0xF080);
            x.poke(0x80, 0x1400);
            x.run(1);
            C.due("PSR", x.register(9), 1 | priority << 8);
            C.due("PSR as it was", x.peek(0x2FFF), 0x8001 | priority << 8);
        }
    }

    private static void trapReadsItsWordLate() {
        C.sentence("Terms 2", "then what is READ at V (as it is by then) comes to PC.");
        SixteenDesk psr = Check.desk(0x0704, 0x3000, 0xF080);
        psr.poke(0x80, 0x1400);
        psr.set(6, 0x81);
        psr.run(1);
        C.due("PSR was WRITTEN at V", psr.register(8), 0x0704);
        SixteenDesk pc = Check.desk(0x0704, 0x3000, 0xF080);
        pc.poke(0x80, 0x1400);
        pc.set(6, 0x82);
        pc.run(1);
        C.due("PC was WRITTEN at V", pc.register(8), 0x3001);
        SixteenDesk zero = Check.desk(0x0000, 0x3000, 0xF080);
        zero.poke(0x80, 0x1400);
        zero.set(6, 0x81);
        zero.run(1);
        C.due("a PSR of 0 was WRITTEN at V", zero.register(8), 0);
        C.due("it went in", zero.count(3), 1);
    }

    private static void trapTakesAKey() {
        C.sentence("Terms 2", "32: R0 is the key that waits longest, which is gone");
        SixteenDesk x = Check.desk(Check.USERS, 0x3000, 0xF020, 0xF020);
        x.set(0, 65535);
        x.key(0);
        x.key(255);
        x.run(1);
        C.due("R0", x.register(0), 0);
        C.due("it is gone", x.count(4), 1);
        x.run(1);
        C.due("R0", x.register(0), 255);
        C.due("it is gone", x.count(4), 0);
        C.due("nothing is PRINTED", x.printed(), 0);
        C.due("PC", x.register(8), 0x3002);
    }

    private static void trapPrintsAByte() {
        C.sentence("Terms 2", "33: the lowest 8 bits of R0 are PRINTED");
        SixteenDesk x = Check.desk(Check.USERS, 0x3000, 0xF021, 0xF021, 0xF021, 0xF021);
        int[] words = {0, 255, 256, 65535};
        for (int word : words) {
            x.set(0, word);
            x.run(1);
            C.due("R0 stays", x.register(0), word);
        }
        C.due("PRINTED", Check.bytes(x), "0 255 0 255");
    }

    /** What a TRAP prints of these words, which lie from x4000 on. */
    private static String printedOf(int word, int... words) {
        SixteenDesk x = Check.desk(Check.USERS, 0x3000, word);
        x.set(0, 0x4000);
        for (int i = 0; i < words.length; i++) {
            x.poke(0x4000 + i, words[i]);
        }
        x.run(1);
        return Check.bytes(x);
    }

    private static void trapPrintsWords() {
        C.sentence("Terms 2", "34: the lowest 8 bits of the WORDS from R0 on are PRINTED, up to one that is 0");
        C.due("no WORD", printedOf(0xF022, 0, 65), "");
        C.due("one WORD", printedOf(0xF022, 65, 0, 66), "65");
        C.due("a WORD of which the lowest 8 bits are 0", printedOf(0xF022, 256, 0x8000, 0x41FF, 0), "0 0 255");
    }

    /** A desk whose next STEP is a TRAP that prints the WORDS from x4000 on, 4,200 but for the one at a place, which is 0. */
    private static SixteenDesk longText(String name, int zero) {
        SixteenDesk x = Check.longText(0x4241, name);
        x.poke(zero, 0);
        return x;
    }

    private static void trapPrintsAtMost() {
        C.sentence("Terms 2", "up to one that is 0, at most 4,096;");
        int[][] rows = {{4095, 4095}, {4096, 4096}, {4097, 4096}, {9000, 4096}};
        for (int[] row : rows) {
            SixteenDesk x = longText("PUTS", 0x4000 + row[0]);
            C.due("run(1)", x.run(1), 1);
            C.due("PUTS of " + row[0], x.printed(), row[1]);
            C.due("PC", x.register(8), 0x3009);
            C.due("R0 stays", x.register(0), 0x4000);
        }
    }

    private static void trapPrintsPairs() {
        C.sentence("Terms 2", "36: of the WORDS from R0 on the lowest 8 bits, then, if they are not 0, the highest 8 are PRINTED, up to a WORD that is 0");
        C.due("no WORD", printedOf(0xF024, 0, 65), "");
        C.due("two bytes", printedOf(0xF024, 0x4241, 0), "65 66");
        C.due("highest 8 bits that are 0", printedOf(0xF024, 0x0041, 0x0042, 0), "65 66");
        C.due("highest 8 bits that are 0, behind lowest from 128 on", printedOf(0xF024, 0x00FF, 0x0080, 0), "255 128");
        C.due("highest 8 bits that are 1", printedOf(0xF024, 0x0141, 0x0180, 0), "65 1 128 1");
        C.due("lowest 8 bits that are 0", printedOf(0xF024, 0x0100, 0xFF00, 0), "0 1 0 255");
    }

    private static void trapPrintsPairsAtMost() {
        C.sentence("Terms 2", "up to a WORD that is 0, at most 4,096 WORDS;");
        int[][] rows = {{4095, 8190}, {4096, 8192}, {4097, 8192}, {9000, 8192}};
        for (int[] row : rows) {
            SixteenDesk x = longText("PUTSP", 0x4000 + row[0]);
            C.due("run(1)", x.run(1), 1);
            C.due("PUTSP of " + row[0], x.printed(), row[1]);
        }
    }

    private static void trapTakesAndPrintsAKey() {
        C.sentence("Terms 2", "35: as 32, and the key is PRINTED");
        SixteenDesk x = Check.desk(Check.USERS, 0x3000, 0xF023, 0xF023);
        x.set(0, 65535);
        x.key(0);
        x.key(255);
        x.run(1);
        C.due("R0", x.register(0), 0);
        x.run(1);
        C.due("R0", x.register(0), 255);
        C.due("PRINTED", Check.bytes(x), "0 255");
        C.due("both are gone", x.count(4), 0);
    }

    private static void trapHalts() {
        C.sentence("Terms 2", "37: the machine is HALTED");
        int[] modes = {Check.USERS, Check.SUPERVISORS};
        for (int psr : modes) {
            SixteenDesk x = Check.desk(psr, 0x3000, 0xF025);
            C.due("run(9)", x.run(9), 1);
            C.due("state()", x.state(), 1);
            C.due("PC", x.register(8), 0x3001);
            C.due("PSR", x.register(9), psr);
        }
    }

    private static void otherTraps() {
        C.sentence("Terms 2", "others: exception 1.");
        for (int v = 0; v < 256; v++) {
            SixteenDesk x = Check.desk(Check.USERS, 0x3000, 0xF000 | v);
            x.poke(257, 0x1100);
            x.key(1);
            x.run(1);
            boolean known = v >= 32 && v <= 37;
            C.due("exceptions of TRAP " + v, x.count(2), known ? 0 : 1);
            C.due("PC behind TRAP " + v, x.register(8), known ? 0x3001 : 0x1100);
            C.due("TRAPS that went in", x.count(3), 0);
        }
    }

    private static void trapWaits() {
        C.sentence("Terms 2", "(32, 35: if no key WAITS the STEP does nothing, PC stays at it, and the machine WAITS.");
        int[] words = {0xF020, 0xF023};
        int[] places = {0, 0x3000, 65535};
        for (int word : words) {
            for (int place : places) {
                SixteenDesk x = Check.desk(Check.SUPERVISORS, place, word);
                x.set(0, 0x1234);
                String before = Check.registers(x);
                C.due("run(5)", x.run(5), 1);
                C.due("state()", x.state(), 2);
                C.due("registers at " + place, Check.registers(x), before);
                C.due("nothing is PRINTED", x.printed(), 0);
                C.due("TRAPS that went in", x.count(3), 0);
            }
        }
    }

    private static void trapLeavesSigns() {
        C.sentence("Terms 2", "R0 is not SET: N, Z, P stay.");
        int[] words = {0xF020, 0xF023};
        int[] keys = {0, 65, 255};
        for (int word : words) {
            for (int key : keys) {
                for (int signs = 0; signs < 8; signs++) {
                    SixteenDesk x = Check.desk(0x8000 | signs, 0x3000, word);
                    x.key(key);
                    x.run(1);
                    C.due("R0", x.register(0), key);
                    C.due("PSR", x.register(9), 0x8000 | signs);
                }
            }
        }
    }

    private static void trapsReadAnyWord() {
        C.sentence("Terms 2", "34, 36 READ any WORD, whatever the mode, and no key is gone by that.)");
        int[] modes = {Check.USERS, Check.SUPERVISORS};
        for (int psr : modes) {
            SixteenDesk x = Check.desk(psr, 0x3000, 0xF022, 0xF024);
            x.poke(Check.KBDR + 1, 72);
            x.poke(Check.DSR + 1, 73);
            x.set(0, Check.KBDR);
            x.key(70);
            x.key(71);
            C.due("run(2)", x.run(2), 2);
            C.due("KBDR, its neighbours, DSR, up to DDR, which is 0", Check.bytes(x), "70 72 0 73 70 72 0 128 73");
            C.due("no key is gone", x.count(4), 2);
            C.due("exceptions", x.count(2), 0);
        }
        SixteenDesk low = Check.desk(Check.USERS, 0x4000, 0xF022);
        low.poke(12287, 65);
        low.poke(12288, 66);
        low.set(0, 12287);
        low.run(1);
        C.due("a WORD below 12288", Check.bytes(low), "65 66");
        SixteenDesk high = Check.desk(Check.USERS, 0x4000, 0xF022);
        high.poke(65023, 65);
        high.key(1);
        high.set(0, 65023);
        high.run(1);
        C.due("KBSR, behind the last WORD of users", Check.bytes(high), "65 0");
        SixteenDesk last = Check.desk(Check.USERS, 0x4000, 0xF024);
        last.poke(65533, 65);
        last.poke(65535, 66);
        last.set(0, 65533);
        last.run(1);
        C.due("MCR", Check.bytes(last), "65 0 128 66");
        C.due("it RUNS", last.state(), 0);
    }

    private static void goInFromUsers() {
        C.sentence("Terms 2", "TO GO IN: if the mode was that of users USER is R6, R6 is SUPER. The mode is the SUPERVISOR's. R6 is one less, PSR as it was is WRITTEN there; R6 is one less, PC is WRITTEN there.");
        int[] words = {0xD000, 0xF080, 0x8000};
        for (int word : words) {
            SixteenDesk x = Check.desk(0x8704, 0x3000, word);
            x.poke(0x80, 0x1400);
            x.set(6, 0x5000);
            x.set(10, 0x2222);
            x.set(11, 0x6666);
            x.run(1);
            C.due("USER", x.register(11), 0x5000);
            C.due("SUPER stays", x.register(10), 0x2222);
            C.due("R6", x.register(6), 0x2220);
            C.due("PSR", x.register(9), 0x0704);
            C.due("PSR as it was", x.peek(0x2221), 0x8704);
            C.due("PC as it was", x.peek(0x2220), 0x3001);
        }
    }

    private static void goInFromSupervisors() {
        C.sentence("Terms 2", "TO GO IN: if the mode was that of users USER is R6, R6 is SUPER.");
        int[] words = {0xD000, 0xF080};
        for (int word : words) {
            SixteenDesk x = Check.desk(0x0104, 0x3000, word);
            x.poke(0x80, 0x1400);
            x.set(6, 0x5000);
            x.set(10, 0x2222);
            x.set(11, 0x6666);
            x.run(1);
            C.due("USER stays", x.register(11), 0x6666);
            C.due("SUPER stays", x.register(10), 0x2222);
            C.due("R6", x.register(6), 0x4FFE);
            C.due("PSR", x.register(9), 0x0104);
            C.due("PSR as it was", x.peek(0x4FFF), 0x0104);
            C.due("PC as it was", x.peek(0x4FFE), 0x3001);
        }
    }

    private static void goInWritesDevices() {
        C.sentence("Terms 2", "R6 is one less, PSR as it was is WRITTEN there; R6 is one less, PC is WRITTEN there.");
        SixteenDesk halted = Check.desk(Check.SUPERVISORS, 0x3000, 0xD000, 0xD000);
        halted.poke(257, 0x1500);
        halted.set(6, 65535);
        C.due("run(5)", halted.run(5), 1);
        C.due("a PSR without bit 15 at MCR", halted.state(), 1);
        C.due("the STEP is done to its end", halted.register(8), 0x1500);
        C.due("PC as it was", halted.peek(65533), 0x3001);
        SixteenDesk users = Check.desk(Check.USERS, 0x3000, 0xD000);
        users.set(10, 65535);
        users.run(1);
        C.due("a PSR with bit 15 at MCR", users.state(), 0);
        SixteenDesk low = Check.desk(Check.SUPERVISORS, 0x3000, 0xD000);
        low.set(6, 0);
        low.run(1);
        C.due("a PC without bit 15 at MCR", low.state(), 1);
        SixteenDesk high = Check.desk(Check.SUPERVISORS, 0x8000, 0xD000);
        high.set(6, 0);
        high.run(1);
        C.due("a PC with bit 15 at MCR", high.state(), 0);
        SixteenDesk printed = Check.desk(0x8701, 0x3041, 0xD000, 0xD000);
        printed.set(10, Check.DDR + 1);
        printed.run(1);
        printed.set(6, Check.DDR + 2);
        printed.set(8, 0x3042);
        printed.run(1);
        C.due("PSR, then PC, at DDR", Check.bytes(printed), "1 67");
        SixteenDesk listening = Check.desk(Check.SUPERVISORS, 0x4000, 0xD000);
        listening.set(6, Check.KBSR + 2);
        listening.run(1);
        C.due("PC at KBSR", listening.peek(Check.KBSR), 0x4000);
    }

    private static void exceptionsKnowThePcBehind() {
        C.sentence("Terms 2", "An exception X (PC being that behind the instruction)");
        int[][] rows = {{0x3000, 0xD000, 0x3001}, {0xFDFF, 0x8000, 0xFE00}, {0xFDFF, 0xF0FF, 0xFE00}, {0x3000, 0x2F00, 0x3001}, {0, 0, 1}};
        for (int[] row : rows) {
            SixteenDesk x = Check.desk(0x8704, row[0], row[1]);
            x.run(1);
            C.due(String.format("PC as it was, of %04X at %d", row[1], row[0]), x.peek(0x2FFE), row[2]);
            C.due("PRIORITY stays", x.register(9), 0x0704);
            C.due("exceptions", x.count(2), 1);
        }
        SixteenDesk last = Check.desk(Check.SUPERVISORS, 65535, 0xD000);
        last.set(6, 0x5000);
        last.run(1);
        C.due("PC as it was, of an exception in the last WORD", last.peek(0x4FFE), 0);
    }

    private static void interruptHasPriority4() {
        C.sentence("Terms 2", "an interrupt X: TO GO IN; of an interrupt PRIORITY is 4;");
        for (int priority = 0; priority < 4; priority++) {
            for (int mode = 0; mode <= 0x8000; mode += 0x8000) {
                SixteenDesk x = new SixteenDesk();
                Check.store(x, Check.KBSR, 0x4000);
                x.set(9, mode | priority << 8 | 1);
                x.set(8, 0x3000);
                x.set(6, 0x5000);
                x.key(1);
                x.run(1);
                int r6 = mode == 0 ? 0x4FFE : 0x2FFE;
                C.due("PSR", x.register(9), 0x0401);
                C.due("R6", x.register(6), r6);
                C.due("PSR as it was", x.peek(r6 + 1), mode | priority << 8 | 1);
                C.due("PC as it was", x.peek(r6), 0x3000);
            }
        }
    }

    /** By a SUPERVISOR whose stack is at the very vector: PSR (x0704 or, of a key, x0304) or PC is WRITTEN over it. */
    private static void dueLate(int vector, int word, int psr, int behind) {
        for (int above = 1; above <= 2; above++) {
            SixteenDesk x = new SixteenDesk();
            if (vector == 384) {
                Check.store(x, Check.KBSR, 0x4000);
                x.key(1);
            }
            x.poke(vector, 0x1500);
            x.poke(0x3000, word);
            x.set(9, psr);
            x.set(8, 0x3000);
            x.set(6, vector + above);
            x.set(10, vector + above);
            x.run(1);
            C.due("PC, from the vector " + vector, x.register(8), above == 1 ? psr : behind);
        }
    }

    private static void vectorsAreReadLate() {
        C.sentence("Terms 2", "then what is READ at 256 + X (as it is by then) comes to PC.");
        dueLate(256, 0x8000, 0x8004, 0x3001);
        dueLate(257, 0xD000, 0x0704, 0x3001);
        dueLate(258, 0x2F00, 0x8002, 0x3001);
        dueLate(384, 0x1261, 0x0304, 0x3000);
    }

    private static void allInTheSupervisorsMode() {
        C.sentence("Terms 2", "(All this in the SUPERVISOR's mode.)");
        int[] stacks = {2, 0x1000, 12287, 12288, 65025, 65030, 65535};
        for (int stack : stacks) {
            SixteenDesk x = Check.desk(0x8304, 0x3000, 0xD000);
            x.poke(257, 0x1100);
            x.set(10, stack);
            x.run(1);
            C.due("exceptions, with SUPER " + stack, x.count(2), 1);
            C.due("PC", x.register(8), 0x1100);
            C.due("R6", x.register(6), stack - 2);
        }
    }
}
