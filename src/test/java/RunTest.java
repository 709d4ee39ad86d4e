/** Promises 8, 10 and 11: load, run and state, with what each instruction does in a STEP. */
public final class RunTest {
    public static void main(String[] args) {
        Check c = new Check("RunTest");
        instructions(c);
        signs(c);
        branches(c);
        wrapping(c);
        bounds(c);
        states(c);
        loads(c);
        c.finish();
    }

    /** R0 to R7 hold 1 to 8; the word runs once at x3000 in the mode of users. */
    private static SixteenDesk once(int word) {
        SixteenDesk x = new SixteenDesk();
        for (int r = 0; r < 8; r++) {
            x.set(r, r + 1);
        }
        x.set(5, 0x4000);
        x.poke(0x3000, word);
        x.poke(0x3011, 0x4002);
        x.poke(0x4002, 0x8123);
        x.poke(0x4000, 77);
        x.poke(0x3FE0, 55);
        x.poke(0x401F, 66);
        x.run(1);
        return x;
    }

    private static void instructions(Check c) {
        Object[][] rows = {
            // word, registers
            {0x1283, "1 7 3 4 5 4000 7 8 3001 8001 3000 FE00"},
            {0x12B0, "1 FFF3 3 4 5 4000 7 8 3001 8004 3000 FE00"},
            {0x12BD, "1 0 3 4 5 4000 7 8 3001 8002 3000 FE00"},
            {0x5283, "1 0 3 4 5 4000 7 8 3001 8002 3000 FE00"},
            {0x53BF, "1 7 3 4 5 4000 7 8 3001 8001 3000 FE00"},
            {0x52B2, "1 2 3 4 5 4000 7 8 3001 8001 3000 FE00"},
            {0x92BF, "1 FFFC 3 4 5 4000 7 8 3001 8004 3000 FE00"},
            {0x9280, "1 FFFC 3 4 5 4000 7 8 3001 8004 3000 FE00"},
            {0x2210, "1 4002 3 4 5 4000 7 8 3001 8001 3000 FE00"},
            {0xA210, "1 8123 3 4 5 4000 7 8 3001 8004 3000 FE00"},
            {0x6340, "1 4D 3 4 5 4000 7 8 3001 8001 3000 FE00"},
            {0x6342, "1 8123 3 4 5 4000 7 8 3001 8004 3000 FE00"},
            {0x637F, "1 0 3 4 5 4000 7 8 3001 8002 3000 FE00"},
            {0xE3FF, "1 3000 3 4 5 4000 7 8 3001 8002 3000 FE00"},
            {0xE2FF, "1 3100 3 4 5 4000 7 8 3001 8002 3000 FE00"},
            {0x4BFF, "1 2 3 4 5 4000 7 3001 3400 8002 3000 FE00"},
            {0x4C00, "1 2 3 4 5 4000 7 3001 2C01 8002 3000 FE00"},
            {0x4140, "1 2 3 4 5 4000 7 3001 4000 8002 3000 FE00"},
            {0x41C0, "1 2 3 4 5 4000 7 3001 8 8002 3000 FE00"},
            {0x477F, "1 2 3 4 5 4000 7 3001 4000 8002 3000 FE00"},
            {0xC140, "1 2 3 4 5 4000 7 8 4000 8002 3000 FE00"},
            {0xCF7F, "1 2 3 4 5 4000 7 8 4000 8002 3000 FE00"},
        };
        for (Object[] row : rows) {
            c.due(String.format("registers behind %04X", row[0]), Check.registers(once((Integer) row[0])), (String) row[1]);
        }
        c.due("LDR -32", once(0x6B60).register(5), 55);
        c.due("LDR 31", once(0x6B5F).register(5), 66);
        c.due("ST", once(0x3410).peek(0x3011), 3);
        c.due("STI", once(0xB410).peek(0x4002), 3);
        c.due("STR", once(0x757F).peek(0x3FFF), 3);
        c.due("STR leaves N, Z, P", once(0x757F).register(9), 0x8002);
    }

    private static void signs(Check c) {
        int[][] rows = {{0x7FFF, 1}, {0x8000, 4}, {0xFFFF, 4}, {1, 1}, {0, 2}};
        for (int[] row : rows) {
            SixteenDesk x = new SixteenDesk();
            x.set(9, 0x0307);
            x.set(1, row[0]);
            x.poke(0x3000, 0x1060);
            x.run(1);
            c.due("PSR of " + row[0], x.register(9), 0x0300 | row[1]);
        }
    }

    private static void branches(Check c) {
        for (int bits = 0; bits < 8; bits++) {
            for (int psr = 0; psr < 8; psr++) {
                SixteenDesk x = new SixteenDesk();
                x.set(9, 0x8000 | psr);
                x.poke(0x3000, bits << 9 | 0x1F0);
                x.run(1);
                c.due("PC behind BR " + bits + " with " + psr, x.register(8), (bits & psr) != 0 ? 0x2FF1 : 0x3001);
            }
        }
    }

    private static void wrapping(Check c) {
        SixteenDesk x = new SixteenDesk();
        x.set(9, 2);
        x.set(8, 65535);
        x.poke(65535, 0x2202);
        x.poke(2, 9);
        x.run(1);
        c.due("PC goes round", x.register(8), 0);
        c.due("LD goes round", x.register(1), 9);
        x.set(2, 65535);
        x.poke(0, 0x1481);
        x.set(1, 1);
        x.run(1);
        c.due("ADD goes round", x.register(2), 0);
        x.poke(1, 0x6841);
        x.set(1, 65535);
        x.poke(0, 5);
        x.run(1);
        c.due("LDR goes round", x.register(4), 5);
    }

    private static void bounds(Check c) {
        SixteenDesk x = new SixteenDesk();
        x.poke(0x3000, 0x0FFF);
        x.set(9, 0x8002);
        int[] wrong = {-1, 20001, Integer.MAX_VALUE, Integer.MIN_VALUE};
        for (int steps : wrong) {
            c.dueThrow("run(" + steps + ")", IllegalArgumentException.class, () -> x.run(steps));
        }
        c.due("count(0)", x.count(0), 0);
        c.due("run(0)", x.run(0), 0);
        c.due("run(20000)", x.run(20000), 20000);
        c.due("run(1)", x.run(1), 1);
        c.due("count(0)", x.count(0), 20001);
        c.due("PC", x.register(8), 0x3000);
    }

    private static void states(Check c) {
        SixteenDesk x = Check.loaded(".ORIG x3000\nGETC\nOUT\nHALT\nADD R1,R1,#1");
        c.due("run(0)", x.run(0), 0);
        c.due("RUNS", x.state(), 0);
        c.due("run(9)", x.run(9), 1);
        c.due("WAITS", x.state(), 2);
        c.due("PC stays", x.register(8), 0x3000);
        c.due("run(0) of one that WAITS", x.run(0), 0);
        c.due("WAITS", x.state(), 2);
        c.due("run(9) again", x.run(9), 1);
        c.due("count(0)", x.count(0), 2);
        c.due("key", x.key(0x141), true);
        c.due("RUNS", x.state(), 0);
        c.due("run(9)", x.run(9), 3);
        c.due("HALTED", x.state(), 1);
        c.due("PC", x.register(8), 0x3003);
        c.due("R0", x.register(0), 0x41);
        c.due("GETC leaves N, Z, P", x.register(9), 0x8002);
        c.due("run(9) of one that is HALTED", x.run(9), 0);
        c.due("key", x.key(1), true);
        c.due("HALTED with a key", x.state(), 1);
        x.set(8, 0x3000);
        c.due("run(9)", x.run(9), 0);
        c.due("count(0)", x.count(0), 5);
        SixteenDesk y = Check.loaded(".ORIG x3000\nGETC\nADD R1,R1,#1\nHALT");
        y.run(1);
        y.set(8, 0x3001);
        c.due("WAITS until it runs", y.state(), 2);
        c.due("its STEP is another one now", y.run(1), 1);
        c.due("RUNS", y.state(), 0);
        c.due("R1", y.register(1), 1);
    }

    private static void loads(Check c) {
        SixteenDesk x = new SixteenDesk();
        c.due("load() without any", x.load(), false);
        Check.assemble(x, ".ORIG xFDFF\n.FILL 7\n.FILL x4000\n.FILL 1\n.FILL 2\n.FILL 3\n.FILL 4\n.FILL 5\n.FILL 65\n");
        for (int r = 0; r < 12; r++) {
            x.set(r, 5);
        }
        x.poke(100, 9);
        x.key(3);
        x.key(4);
        x.set(8, 0x200);
        x.poke(0x200, 0xA201);
        x.poke(0x202, 65026);
        x.poke(0x201, 0xB201);
        x.poke(0x203, 65024);
        x.set(9, 0x0702);
        x.run(1);
        x.set(1, 0x4000);
        x.run(1);
        c.due("KBSR ahead of load()", x.peek(65024), 0xC000);
        x.set(0, 66);
        x.poke(0x202, 0xF021);
        x.run(1);
        x.poke(0x203, 0xF025);
        x.run(1);
        c.due("HALTED", x.state(), 1);
        c.due("load()", x.load(), true);
        c.due("registers", Check.registers(x), "0 0 0 0 0 0 0 0 FDFF 8002 3000 FE00");
        c.due("RUNS", x.state(), 0);
        c.due("no key", x.count(4), 0);
        c.due("the word", x.peek(0xFDFF), 7);
        c.due("KBSR", x.peek(65024), 0);
        c.due("KBDR", x.peek(65026), 0);
        c.due("between", x.peek(65025), 1);
        c.due("DDR was not written", x.printed(), 1);
        c.due("print(0) stays", x.print(0), 66);
        c.due("what else lay there stays", x.peek(100), 9);
        c.due("count(0) stays", x.count(0), 4);
        Check.assemble(x, ".ORIG 100\n.FILL 1\n.FILL 2\n.FILL 3");
        Check.assemble(x, ".ORIG 98\n.FILL 6\n.FILL 5");
        x.load();
        c.due("the WORDS", x.peek(98) * 10 + x.peek(99), 65);
        c.due("what lies behind them stays", x.peek(100), 9);
        Check.assemble(x, ".ORIG 300");
        c.due("load() of no WORD", x.load(), true);
        c.due("PC", x.register(8), 300);
        Check.assemble(x, "wrong");
        c.due("load() of what was assembled before", x.load(), true);
        c.due("PC", x.register(8), 300);
        Check.assemble(x, ".ORIG xFFFE\n.FILL 0\n.FILL 6");
        x.load();
        c.due("MCR was not written", x.state(), 0);
        c.due("the last WORD", x.peek(65535), 6);
    }
}
