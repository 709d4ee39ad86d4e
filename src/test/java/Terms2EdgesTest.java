/** The boundary cases that 'Terms' 2 names of a STEP and its instructions. Each method holds the sentence that it quotes. */
public final class Terms2EdgesTest {
    private static final Check C = new Check("Terms2EdgesTest");

    public static void main(String[] args) {
        noStepWhenHalted();
        whenTheInterruptComes();
        interruptIsTheStep();
        interruptAheadOfAWait();
        pcIsOneMore();
        pcIsOneMoreBehindAFault();
        instructionIsRead();
        fieldsOfRegisters();
        imm5();
        off6();
        off9();
        off11();
        branches();
        additionsAndAnds();
        jsrrTakesTheOldR7();
        notTurnsAllBits();
        ldiTakesPlacesOfPlaces();
        leaLeavesSigns();
        thirteen();
        bitsThatAreNotTold();
        C.finish();
    }

    /** A desk whose KBSR has its bit 14, with a handler's place for keys. */
    private static SixteenDesk listening(int psr, int word) {
        SixteenDesk x = new SixteenDesk();
        Check.store(x, Check.KBSR, 0x4000);
        x.poke(384, 0x1300);
        x.poke(0x3000, word);
        x.set(1, 0);
        x.set(9, psr);
        x.set(8, 0x3000);
        x.set(6, 0x5000);
        return x;
    }

    private static void noStepWhenHalted() {
        C.sentence("Terms 2", "A STEP (if the machine is not HALTED)");
        SixteenDesk x = listening(Check.USERS, 0xF025);
        C.due("run(1), which HALTS", x.run(1), 1);
        x.key(65);
        x.set(8, 0x3000);
        C.due("run(1) with an interrupt to come", x.run(1), 0);
        C.due("no interrupt comes", x.count(1), 0);
        C.due("PC", x.register(8), 0x3000);
        C.due("STEPS", x.count(0), 2);
    }

    private static void whenTheInterruptComes() {
        C.sentence("Terms 2", "if bit 14 of KBSR is 1, a key WAITS, and PRIORITY is below 4, the interrupt 128 comes");
        for (int priority = 0; priority < 8; priority++) {
            for (int mode = 0; mode <= 0x8000; mode += 0x8000) {
                SixteenDesk x = listening(mode | priority << 8 | 1, 0x1261);
                x.key(0);
                x.run(1);
                C.due("interrupts at PRIORITY " + priority, x.count(1), priority < 4 ? 1 : 0);
                C.due("PC", x.register(8), priority < 4 ? 0x1300 : 0x3001);
            }
        }
        SixteenDesk noKey = listening(Check.USERS, 0x1261);
        noKey.run(1);
        C.due("interrupts without a key", noKey.count(1), 0);
        SixteenDesk gone = listening(Check.USERS, 0x1261);
        gone.key(1);
        Check.read(gone, Check.KBDR);
        gone.set(9, Check.USERS);
        gone.set(8, 0x3000);
        gone.run(1);
        C.due("interrupts when the key is gone", gone.count(1), 0);
        SixteenDesk off = listening(Check.USERS, 0x1261);
        Check.store(off, Check.KBSR, 0xBFFF);
        off.set(9, Check.USERS);
        off.set(8, 0x3000);
        off.key(1);
        off.run(1);
        C.due("interrupts without bit 14", off.count(1), 0);
    }

    private static void interruptIsTheStep() {
        C.sentence("Terms 2", "the interrupt 128 comes, and that is the STEP.");
        SixteenDesk x = listening(Check.USERS, 0x1261);
        x.key(1);
        C.due("run(1)", x.run(1), 1);
        C.due("the instruction is not done", x.register(1), 0);
        C.due("PC as it was is that of the instruction", x.peek(0x2FFE), 0x3000);
        C.due("PC is at the handler, which is not begun", x.register(8), 0x1300);
        C.due("the key WAITS", x.count(4), 1);
        SixteenDesk barred = listening(Check.USERS, 0);
        barred.set(8, 0);
        barred.key(1);
        barred.run(1);
        C.due("an instruction that is a FAULT is not READ", barred.count(2), 0);
        C.due("PC as it was", barred.peek(0x2FFE), 0);
    }

    private static void interruptAheadOfAWait() {
        C.sentence("Terms 2", "if bit 14 of KBSR is 1, a key WAITS, and PRIORITY is below 4, the interrupt 128 comes, and that is the STEP. Else the WORD at PC is READ");
        SixteenDesk x = listening(Check.USERS, 0xF020);
        C.due("GETC WAITS without a key", x.run(5), 1);
        C.due("state()", x.state(), 2);
        x.key(65);
        C.due("run(1)", x.run(1), 1);
        C.due("interrupts", x.count(1), 1);
        C.due("PC as it was is that of GETC", x.peek(0x2FFE), 0x3000);
        C.due("the key WAITS", x.count(4), 1);
        SixteenDesk high = listening(0x8402, 0xF020);
        high.key(65);
        high.run(1);
        C.due("GETC at PRIORITY 4", high.register(0), 65);
        C.due("interrupts", high.count(1), 0);
    }

    private static void pcIsOneMore() {
        C.sentence("Terms 2", "PC is one more");
        int[][] rows = {{0, 1}, {0x3000, 0x3001}, {32767, 32768}, {65535, 0}};
        for (int[] row : rows) {
            SixteenDesk x = Check.desk(Check.SUPERVISORS, row[0], 0x1020);
            x.run(1);
            C.due("PC behind " + row[0], x.register(8), row[1]);
        }
    }

    private static void pcIsOneMoreBehindAFault() {
        C.sentence("Terms 2", "PC is one more (also if that READ was a FAULT)");
        int[][] rows = {{0, 1}, {12287, 12288}, {65024, 65025}, {65535, 0}};
        for (int[] row : rows) {
            SixteenDesk x = Check.desk(Check.USERS, row[0]);
            x.run(1);
            C.due("PC as it was, of an instruction at " + row[0], x.peek(0x2FFE), row[1]);
        }
    }

    private static void instructionIsRead() {
        C.sentence("Terms 2", "Else the WORD at PC is READ");
        SixteenDesk x = Check.desk(Check.SUPERVISORS, Check.KBDR, 0xF025);
        x.key(7);
        x.key(8);
        x.run(1);
        C.due("an instruction at KBDR: a key is gone", x.count(4), 1);
        C.due("it is the key, a BR without N, Z, P", x.register(8), Check.KBDR + 1);
        C.due("what lies there is not done", x.state(), 0);
        SixteenDesk y = Check.desk(Check.USERS & 0x7FFF, Check.DSR, 0xF025);
        y.set(6, 0x5000);
        y.poke(0x5000, 0x1111);
        y.poke(0x5001, 0x0001);
        y.run(1);
        C.due("an instruction at DSR is 32768, RTI", y.register(8), 0x1111);
    }

    // R0 to R7 are x3800 to x3F00, so that each is told from each and may be a place of users.
    private static void fieldsOfRegisters() {
        C.sentence("Terms 2", "Its bits 15 to 12 tell what; DR, SR: bits 11 to 9; A: bits 8 to 6; B: bits 2 to 0;");
        for (int d = 0; d < 8; d++) {
            for (int a = 0; a < 8; a++) {
                int b = (d + a) % 8;
                dueRegister("ADD", 0x1000 | d << 9 | a << 6 | b, d, (0x3800 + a * 256) + (0x3800 + b * 256));
                dueRegister("AND", 0x5000 | d << 9 | a << 6 | b, d, 0x3800 + a * 256 & 0x3800 + b * 256);
                dueRegister("NOT", 0x903F | d << 9 | a << 6, d, 65535 - (0x3800 + a * 256));
                dueRegister("LDR", 0x6001 | d << 9 | a << 6, d, 0x3801 + a * 256);
                SixteenDesk x = registersAsPlaces(0x7001 | d << 9 | a << 6);
                C.due("STR R" + d + ", R" + a, x.peek(0x3801 + a * 256), 0x3800 + d * 256);
            }
            dueRegister("JMP", 0xC000 | d << 6, 8, 0x3800 + d * 256);
            dueRegister("JSRR", 0x4000 | d << 6, 8, 0x3800 + d * 256);
            dueRegister("LD", 0x2001 | d << 9, d, 0x3002);
            dueRegister("LEA", 0xE001 | d << 9, d, 0x3002);
            dueRegister("LDI", 0xA002 | d << 9, d, 0x3002);
            C.due("ST R" + d, registersAsPlaces(0x3001 | d << 9).peek(0x3002), 0x3800 + d * 256);
            C.due("STI R" + d, registersAsPlaces(0xB002 | d << 9).peek(0x3002), 0x3800 + d * 256);
        }
    }

    private static SixteenDesk registersAsPlaces(int word) {
        SixteenDesk x = Check.desk(Check.USERS, 0x3000, word, 0, 0x3002, 0x3002);
        for (int r = 0; r < 8; r++) {
            x.set(r, 0x3800 + r * 256);
            x.poke(0x3801 + r * 256, 0x3801 + r * 256);
        }
        x.run(1);
        return x;
    }

    private static void dueRegister(String what, int word, int r, int want) {
        C.due(String.format("%s %04X", what, word), registersAsPlaces(word).register(r), want);
    }

    /** The word, done once at x3000 with R2 x4000: what a register is then. */
    private static void dueField(String what, int word, int r, int want) {
        SixteenDesk x = Check.desk(Check.USERS, 0x3000, word);
        x.set(2, 0x4000);
        for (int place = 0x3FE0; place <= 0x401F; place++) {
            x.poke(place, place);
        }
        x.run(1);
        C.due(what, x.register(r), want);
    }

    private static void imm5() {
        C.sentence("Terms 2", "IMM5, OFF6, OFF9, OFF11: the lowest 5, 6, 9, 11 bits as numbers with sign.");
        dueField("ADD #0", 0x12A0, 1, 0x4000);
        dueField("ADD #15", 0x12AF, 1, 0x400F);
        dueField("ADD #-16", 0x12B0, 1, 0x3FF0);
        dueField("ADD #-1", 0x12BF, 1, 0x3FFF);
        dueField("AND #15", 0x52AF, 1, 0);
        dueField("AND #-16", 0x52B0, 1, 0x4000);
    }

    private static void off6() {
        C.sentence("Terms 2", "IMM5, OFF6, OFF9, OFF11: the lowest 5, 6, 9, 11 bits as numbers with sign.");
        dueField("LDR #0", 0x6280, 1, 0x4000);
        dueField("LDR #31", 0x629F, 1, 0x401F);
        dueField("LDR #-32", 0x62A0, 1, 0x3FE0);
        dueField("LDR #-1", 0x62BF, 1, 0x3FFF);
        int[][] rows = {{0x7280, 0x4000}, {0x729F, 0x401F}, {0x72A0, 0x3FE0}, {0x72BF, 0x3FFF}};
        for (int[] row : rows) {
            SixteenDesk x = Check.desk(Check.USERS, 0x3000, row[0]);
            x.set(1, 0x0777);
            x.set(2, 0x4000);
            x.run(1);
            C.due(String.format("%04X", row[0]), x.peek(row[1]), 0x0777);
        }
    }

    private static void off9() {
        C.sentence("Terms 2", "IMM5, OFF6, OFF9, OFF11: the lowest 5, 6, 9, 11 bits as numbers with sign.");
        int[][] distances = {{0x000, 0x4001}, {0x0FF, 0x4100}, {0x100, 0x3F01}, {0x1FF, 0x4000}, {0x1FE, 0x3FFF}};
        for (int[] row : distances) {
            dueDistance(0x0E00 | row[0], row[1]);
            dueDistance(0xE200 | row[0], row[1]);
            if (row[1] != 0x4000) {
                int[] codes = {0x2200, 0x3200, 0xA200, 0xB200};
                for (int code : codes) {
                    dueDistance(code | row[0], row[1]);
                }
            }
        }
    }

    /** BR and LEA tell a place by PC and R1; the others bring R1 from it or to it (LDI, STI by way of x6000). */
    private static void dueDistance(int word, int place) {
        SixteenDesk x = Check.desk(Check.USERS, 0x4000, word);
        x.set(1, 0x0777);
        x.poke(0x6000, 0x0555);
        int code = word >> 12;
        if (code != 0 && code != 14) {
            x.poke(place, code < 8 ? 0x0555 : 0x6000);
        }
        x.run(1);
        String what = String.format("%04X", word);
        switch (code) {
            case 0: C.due(what, x.register(8), place); break;
            case 3: C.due(what, x.peek(place), 0x0777); break;
            case 11: C.due(what, x.peek(0x6000), 0x0777); break;
            case 14: C.due(what, x.register(1), place); break;
            default: C.due(what, x.register(1), 0x0555); break;
        }
    }

    private static void off11() {
        C.sentence("Terms 2", "IMM5, OFF6, OFF9, OFF11: the lowest 5, 6, 9, 11 bits as numbers with sign.");
        dueField("JSR #0", 0x4800, 8, 0x3001);
        dueField("JSR #1023", 0x4BFF, 8, 0x3400);
        dueField("JSR #-1024", 0x4C00, 8, 0x2C01);
        dueField("JSR #-1", 0x4FFF, 8, 0x3000);
        dueField("R7 of JSR", 0x4C00, 7, 0x3001);
    }

    private static void branches() {
        C.sentence("Terms 2", "if N and bit 11, Z and bit 10 or P and bit 9 are both 1, PC is PC + OFF9.");
        for (int bits = 0; bits < 8; bits++) {
            for (int signs = 0; signs < 8; signs++) {
                SixteenDesk x = Check.desk(0x8000 | signs, 0x3000, bits << 9 | 0x10);
                x.run(1);
                C.due("PC behind BR " + bits + " with " + signs, x.register(8), (bits & signs) != 0 ? 0x3011 : 0x3001);
                C.due("N, Z, P stay", x.register(9), 0x8000 | signs);
            }
        }
    }

    private static void additionsAndAnds() {
        C.sentence("Terms 2", "DR is SET to A + B, with bit 5 to A + IMM5.");
        for (int d = 0; d < 8; d++) {
            SixteenDesk x = Check.desk(Check.USERS, 0x3000, 0x1000 | d << 9 | d << 6 | d, 0x1020 | d << 9 | d << 6 | 31, 0x5000 | d << 9 | d << 6 | 7 - d);
            x.set(d, 40);
            x.set(7 - d, 0x4C);
            x.run(1);
            C.due("ADD of a register to itself", x.register(d), d == 7 - d ? 0x98 : 80);
            x.run(1);
            C.due("ADD of #-1 to a register", x.register(d), 79);
            x.run(1);
            C.due("AND of two", x.register(d), 79 & 0x4C);
        }
    }

    private static void jsrrTakesTheOldR7() {
        C.sentence("Terms 2", "with bit 11 0 (JSRR): PC is A (as it was), R7 the PC behind.");
        SixteenDesk x = Check.desk(Check.USERS, 0x3000, 0x41C0);
        x.set(7, 0x4444);
        x.run(1);
        C.due("PC behind JSRR R7", x.register(8), 0x4444);
        C.due("R7", x.register(7), 0x3001);
    }

    private static void notTurnsAllBits() {
        C.sentence("Terms 2", "NOT: DR is SET to A with all bits turned.");
        int[] words = {0, 65535, 1, 0x8000, 0x5555};
        for (int word : words) {
            SixteenDesk x = Check.desk(Check.USERS, 0x3000, 0x92BF);
            x.set(2, word);
            x.run(1);
            C.due("NOT of " + word, x.register(1), 65535 - word);
        }
    }

    private static void ldiTakesPlacesOfPlaces() {
        C.sentence("Terms 2", "LDI: DR is SET to the WORD at the WORD at PC + OFF9.");
        SixteenDesk x = Check.desk(Check.SUPERVISORS, 0x3000, 0xA200, Check.KBDR);
        x.key(70);
        x.run(1);
        C.due("LDI by way of a WORD to KBDR", x.register(1), 70);
        C.due("the key is gone", x.count(4), 0);
        SixteenDesk y = Check.desk(Check.SUPERVISORS, Check.KBDR - 1, 0xA200);
        y.key(70);
        y.key(71);
        y.poke(70, 0x0555);
        y.run(1);
        C.due("LDI by way of KBDR", y.register(1), 0x0555);
        C.due("one key is gone", y.count(4), 1);
        SixteenDesk z = Check.desk(Check.SUPERVISORS, Check.KBDR - 1, 0xB200);
        z.key(70);
        z.set(1, 0x0777);
        z.run(1);
        C.due("STI by way of KBDR", z.peek(70), 0x0777);
        C.due("the key is gone", z.count(4), 0);
    }

    private static void leaLeavesSigns() {
        C.sentence("Terms 2", "LEA: DR is PC + OFF9 (N, Z, P stay).");
        for (int signs = 0; signs < 8; signs++) {
            SixteenDesk x = Check.desk(0x8000 | signs, 0x3000, 0xE200);
            x.run(1);
            C.due("LEA", x.register(1), 0x3001);
            C.due("N, Z, P", x.register(9), 0x8000 | signs);
        }
    }

    private static void thirteen() {
        C.sentence("Terms 2", "13: exception 1.");
        int[] words = {0xD000, 0xDFFF, 0xD800};
        for (int word : words) {
            SixteenDesk x = Check.desk(Check.USERS, 0x3000, word);
            x.poke(257, 0x1100);
            x.run(1);
            C.due("PC", x.register(8), 0x1100);
            C.due("exceptions", x.count(2), 1);
        }
    }

    private static void bitsThatAreNotTold() {
        C.sentence("Terms 2", "(Bits that are not told tell nothing.)");
        int[][] rows = {
            // a word, and one that has other bits where 2 tells of none
            {0x1283, 0x129B}, {0x5283, 0x529B}, {0x92BF, 0x9280}, {0x4080, 0x46BF}, {0xC080, 0xCEBF}, {0xF021, 0xFF21},
        };
        for (int[] row : rows) {
            SixteenDesk plain = Check.desk(Check.USERS, 0x3000, row[0]);
            SixteenDesk other = Check.desk(Check.USERS, 0x3000, row[1]);
            plain.set(2, 0x4321);
            other.set(2, 0x4321);
            plain.set(3, 0x0F0F);
            other.set(3, 0x0F0F);
            plain.run(1);
            other.run(1);
            C.due(String.format("registers behind %04X", row[1]), Check.registers(other), Check.registers(plain));
            C.due("exceptions", other.count(2), 0);
            C.due("PRINTED", Check.bytes(other), Check.bytes(plain));
        }
        SixteenDesk back = Check.desk(Check.SUPERVISORS, 0x3000, 0x8FFF);
        back.poke(0, 0x1111);
        back.run(1);
        C.due("RTI with all its bits", back.register(8), 0x1111);
    }
}
