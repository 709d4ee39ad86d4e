import java.util.NoSuchElementException;

/** Promises 10 and 21: the two modes, exceptions, interrupts, TRAPS and RTI, and what is counted. */
public final class ModeTest {
    public static void main(String[] args) {
        Check c = new Check("ModeTest");
        faults(c);
        exceptions(c);
        interrupts(c);
        traps(c);
        rti(c);
        stackAtDevices(c);
        counts(c);
        c.finish();
    }

    private static SixteenDesk once(int place, int word, int psr) {
        SixteenDesk x = new SixteenDesk();
        x.poke(256, 0x1000);
        x.poke(257, 0x1100);
        x.poke(258, 0x1200);
        x.poke(384, 0x1300);
        x.set(9, psr);
        x.set(8, place);
        x.set(6, 0x5000);
        x.set(1, 0x2FFF);
        x.set(2, 0xFE00);
        x.set(3, 0x3000);
        x.set(4, 0xFDFF);
        x.poke(place, word);
        x.poke(0x3010, 0x2FFF);
        x.poke(0x3011, 0xFDFF);
        x.run(1);
        return x;
    }

    private static void dueException(Check c, String what, SixteenDesk x, int vector, int behind, int psr) {
        boolean user = psr >= 0x8000;
        c.due(what + ": PC", x.register(8), vector);
        c.due(what + ": PSR", x.register(9), psr & 0x7FFF);
        c.due(what + ": R6", x.register(6), user ? 0x2FFE : 0x4FFE);
        c.due(what + ": USER", x.register(11), user ? 0x5000 : 0xFE00);
        c.due(what + ": SUPER", x.register(10), 0x3000);
        c.due(what + ": PC as it was", x.peek(x.register(6)), behind);
        c.due(what + ": PSR as it was", x.peek(x.register(6) + 1), psr);
        c.due(what + ": exceptions", x.count(2), 1);
        c.due(what + ": STEPS", x.count(0), 1);
    }

    private static void faults(Check c) {
        int[] words = {0x6A40, 0x7A40, 0x6A80, 0x7A80, 0xAA0F, 0xBA0F};
        for (int word : words) {
            SixteenDesk x = once(0x3000, word, 0x8302);
            dueException(c, String.format("%04X", word), x, 0x1200, 0x3001, 0x8302);
            c.due("R5 stays", x.register(5), 0);
            c.due("supervisors may", once(0x3000, word, 0x0302).count(2), 0);
        }
        int[] right = {0x6AC0, 0x7AC0, 0x6B00, 0x7B00, 0xAA10, 0xBA10};
        for (int word : right) {
            c.due(String.format("%04X may", word), once(0x3000, word, 0x8302).count(2), 0);
        }
        dueException(c, "instruction below", once(0x2FFF, 0x1020, 0x8001), 0x1200, 0x3000, 0x8001);
        dueException(c, "instruction above", once(0xFE01, 0x1020, 0x8004), 0x1200, 0xFE02, 0x8004);
        dueException(c, "instruction at the end", once(0xFFFF, 0x1020, 0x8004), 0x1200, 0, 0x8004);
        dueException(c, "LDI through a barred place", once(0x3000, 0xABE0, 0x8002), 0x1200, 0x3001, 0x8002);
        SixteenDesk x = once(0x3000, 0xBBE0, 0x8002);
        dueException(c, "STI through a barred place", x, 0x1200, 0x3001, 0x8002);
        c.due("nothing is written", x.peek(0), 0);
        SixteenDesk y = new SixteenDesk();
        y.key(5);
        y.set(1, 65026);
        y.poke(0x3000, 0x6040);
        y.run(1);
        c.due("a barred KBDR keeps its key", y.count(4), 1);
        c.due("nothing was read", y.peek(65026), 5);
    }

    private static void exceptions(Check c) {
        dueException(c, "RTI", once(0x3000, 0x8000, 0x8704), 0x1000, 0x3001, 0x8704);
        int[] modes = {0x8101, 0x0101};
        for (int psr : modes) {
            dueException(c, "13", once(0x3000, 0xDABC, psr), 0x1100, 0x3001, psr);
            dueException(c, "TRAP 38", once(0x3000, 0xF026, psr), 0x1100, 0x3001, psr);
            dueException(c, "TRAP 31", once(0x3000, 0xF01F, psr), 0x1100, 0x3001, psr);
            dueException(c, "TRAP 0", once(0x3000, 0xFF00, psr), 0x1100, 0x3001, psr);
            dueException(c, "TRAP 255", once(0x3000, 0xF0FF, psr), 0x1100, 0x3001, psr);
        }
        SixteenDesk back = new SixteenDesk();
        back.poke(257, 0x1000);
        back.poke(0x3000, 0xD000);
        back.poke(0x3001, 0x1261);
        back.poke(0x1000, 0x14A1);
        back.poke(0x1001, 0x8000);
        c.due("run(4)", back.run(4), 4);
        c.due("there and back", Check.registers(back), "0 1 1 0 0 0 0 0 3002 8001 3000 0");
        c.due("one exception", back.count(2), 1);
        SixteenDesk x = new SixteenDesk();
        x.poke(257, 0x1234);
        x.set(9, 2);
        x.set(6, 258);
        x.poke(0x3000, 0xD000);
        x.run(1);
        c.due("the vector as it is by then", x.register(8), 2);
    }

    private static SixteenDesk withInterrupts(int psr) {
        SixteenDesk x = new SixteenDesk();
        x.set(9, 0x0702);
        x.set(8, 0x200);
        x.set(0, 0x4000);
        x.poke(0x200, 0xB001);
        x.poke(0x202, 65024);
        x.run(1);
        x.set(9, psr);
        x.set(8, 0x3000);
        x.set(6, 0x5000);
        x.poke(384, 0x1300);
        x.poke(0x3000, 0x1261);
        return x;
    }

    private static void interrupts(Check c) {
        for (int priority = 0; priority < 8; priority++) {
            SixteenDesk x = withInterrupts(0x8001 | priority << 8);
            x.key(9);
            c.due("run(1)", x.run(1), 1);
            boolean comes = priority < 4;
            c.due("interrupts at " + priority, x.count(1), comes ? 1 : 0);
            c.due("PC", x.register(8), comes ? 0x1300 : 0x3001);
            c.due("PSR", x.register(9), comes ? 0x0401 : 0x8001 | priority << 8);
            c.due("R1", x.register(1), comes ? 0 : 1);
            c.due("R6", x.register(6), comes ? 0x2FFE : 0x5000);
            if (comes) {
                c.due("PC as it was", x.peek(0x2FFE), 0x3000);
                c.due("PSR as it was", x.peek(0x2FFF), 0x8001 | priority << 8);
                c.due("USER", x.register(11), 0x5000);
            }
            c.due("the key WAITS", x.count(4), 1);
            c.due("no exception", x.count(2), 0);
            c.due("STEPS", x.count(0), 2);
        }
        SixteenDesk none = withInterrupts(0x8002);
        none.run(1);
        c.due("without a key", none.count(1), 0);
        SixteenDesk off = new SixteenDesk();
        off.key(1);
        off.run(1);
        c.due("without bit 14", off.count(1), 0);
        SixteenDesk low = withInterrupts(0x0302);
        low.key(1);
        low.run(1);
        c.due("from the SUPERVISOR's mode: R6", low.register(6), 0x4FFE);
        c.due("from the SUPERVISOR's mode: PSR", low.register(9), 0x0402);
        c.due("PSR as it was", low.peek(0x4FFF), 0x0302);
        SixteenDesk read = withInterrupts(0x8002);
        read.poke(0x1300, 0xA20F);
        read.poke(0x1310, 65026);
        read.poke(0x1301, 0x8000);
        read.key(65);
        c.due("run(4)", read.run(4), 4);
        c.due("one interrupt", read.count(1), 1);
        c.due("R1", read.register(1), 66);
        c.due("PC", read.register(8), 0x3001);
        c.due("PSR", read.register(9), 0x8001);
        c.due("R6", read.register(6), 0x5000);
        c.due("SUPER", read.register(10), 0x3000);
    }

    private static void traps(Check c) {
        SixteenDesk x = new SixteenDesk();
        x.poke(0x25, 0x1400);
        x.poke(0x3000, 0xF025);
        x.set(9, 0x8304);
        x.set(6, 0x5000);
        x.run(1);
        c.due("a TRAP that goes in: PC", x.register(8), 0x1400);
        c.due("PSR", x.register(9), 0x0304);
        c.due("R6", x.register(6), 0x2FFE);
        c.due("R7 stays", x.register(7), 0);
        c.due("PC as it was", x.peek(0x2FFE), 0x3001);
        c.due("PSR as it was", x.peek(0x2FFF), 0x8304);
        c.due("TRAPS", x.count(3), 1);
        c.due("RUNS", x.state(), 0);
        c.due("no exception", x.count(2), 0);
        SixteenDesk y = new SixteenDesk();
        y.poke(0x80, 0x1400);
        y.set(9, 2);
        y.set(6, 0x81);
        y.poke(0x3000, 0xF080);
        y.run(1);
        c.due("the vector as it is by then", y.register(8), 2);
        SixteenDesk z = Check.loaded(".ORIG x3000\nADD R0,R0,#-1\nIN\nIN\nHALT");
        z.key(0x61);
        z.run(9);
        c.due("IN", z.register(0), 0x61);
        c.due("IN prints", Check.printed(z), "a");
        c.due("IN WAITS", z.state(), 2);
        c.due("N, Z, P stay", z.register(9), 0x8004);
        c.due("PC stays", z.register(8), 0x3002);
        c.due("no TRAP went in", z.count(3), 0);
    }

    private static void rti(Check c) {
        SixteenDesk x = new SixteenDesk();
        x.set(9, 0x0002);
        x.set(6, 0xFFFF);
        x.set(11, 0x4321);
        x.poke(0xFFFF, 0x1111);
        x.poke(0, 0xFFFF);
        x.poke(0x3000, 0x8ABC);
        x.run(1);
        c.due("RTI to users", Check.registers(x), "0 0 0 0 0 0 4321 0 1111 8707 1 4321");
        SixteenDesk y = new SixteenDesk();
        y.set(9, 0x0702);
        y.set(6, 0x5000);
        y.poke(0x5000, 0x1111);
        y.poke(0x5001, 0x78FC);
        y.poke(0x3000, 0x8000);
        y.run(1);
        c.due("RTI to supervisors", Check.registers(y), "0 0 0 0 0 0 5002 0 1111 4 3000 FE00");
    }

    private static void stackAtDevices(Check c) {
        SixteenDesk x = new SixteenDesk();
        x.set(9, 0x0001);
        x.set(6, 0xFFFF);
        x.poke(0x3000, 0xD000);
        x.poke(257, 0x1500);
        c.due("run(5)", x.run(5), 1);
        c.due("PSR at MCR: HALTED", x.state(), 1);
        c.due("the STEP was done", x.register(8), 0x1500);
        c.due("PC as it was", x.peek(0xFFFD), 0x3001);
        SixteenDesk y = new SixteenDesk();
        y.set(9, 0x0002);
        y.set(6, 0xFE08);
        y.set(8, 0x3040);
        y.poke(0x3040, 0xD000);
        y.run(1);
        c.due("PC at DDR is PRINTED", Check.printed(y), "A");
        SixteenDesk z = new SixteenDesk();
        z.set(9, 0x0002);
        z.set(6, 0xFE01);
        z.key(0);
        z.key(0x55);
        z.poke(0x3000, 0x8000);
        z.poke(0xFE01, 0x1111);
        z.run(1);
        c.due("PSR from KBDR", z.register(9), 0);
        c.due("a key is gone", z.count(4), 1);
    }

    private static void counts(Check c) {
        SixteenDesk x = new SixteenDesk();
        int[] none = {-1, 5, Integer.MAX_VALUE, Integer.MIN_VALUE};
        for (int what : none) {
            c.dueThrow("count(" + what + ")", NoSuchElementException.class, () -> x.count(what));
        }
        x.poke(0x3000, 0xD000);
        x.poke(0x3001, 0xD000);
        x.poke(257, 0x3000);
        c.due("run(7)", x.run(7), 7);
        c.due("STEPS", x.count(0), 7);
        c.due("exceptions", x.count(2), 7);
    }
}
