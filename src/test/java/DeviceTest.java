import java.util.NoSuchElementException;

/** Promises 9, 12 to 15: keys, registers and the MEMORY from outside, and the DEVICES from inside. */
public final class DeviceTest {
    public static void main(String[] args) {
        Check c = new Check("DeviceTest");
        keys(c);
        registers(c);
        memory(c);
        reads(c);
        writes(c);
        c.finish();
    }

    private static void keys(Check c) {
        SixteenDesk x = new SixteenDesk();
        for (int k = 0; k < 100; k++) {
            c.due("key " + k, x.key(k + 256), true);
            c.due("count(4)", x.count(4), k + 1);
        }
        c.due("the 101st key", x.key(5), false);
        c.due("count(4)", x.count(4), 100);
        x.poke(0x3000, 0xF020);
        x.poke(0x3001, 0x0FFE);
        x.set(9, 0x8002);
        for (int k = 0; k < 60; k++) {
            x.run(2);
            c.due("R0", x.register(0), k);
        }
        c.due("key behind", x.key(-1), true);
        x.run(79);
        c.due("the last of the hundred", x.register(0), 99);
        x.run(2);
        c.due("a key has its lowest 8 bits", x.register(0), 255);
        c.due("count(4)", x.count(4), 0);
    }

    private static void registers(Check c) {
        SixteenDesk x = new SixteenDesk();
        for (int r = 0; r < 12; r++) {
            c.due("set(" + r + ")", x.set(r, 0xABCD0000 | r + 0x9870), true);
            c.due("register(" + r + ")", x.register(r), r == 9 ? (r + 0x9870) & 0x8707 : r + 0x9870);
        }
        x.set(9, -1);
        c.due("PSR", x.register(9), 0x8707);
        x.set(6, -1);
        c.due("R6", x.register(6), 65535);
        int[] none = {-1, 12, Integer.MAX_VALUE, Integer.MIN_VALUE};
        for (int r : none) {
            c.due("set(" + r + ")", x.set(r, 1), false);
            c.dueThrow("register(" + r + ")", NoSuchElementException.class, () -> x.register(r));
        }
    }

    private static void memory(Check c) {
        SixteenDesk x = new SixteenDesk();
        int[] places = {0, 1, 255, 256, 12287, 12288, 65023, 65025, 65533, 65535};
        for (int place : places) {
            x.poke(place, place + 0x70001);
            c.due("peek(" + place + ")", x.peek(place), (place + 1) & 65535);
            c.due("peek of its lowest 16 bits", x.peek(place - 65536), (place + 1) & 65535);
        }
        x.poke(-1, 99);
        c.due("poke(-1)", x.peek(65535), 99);
        x.poke(0x12345678, 98);
        c.due("poke of its lowest 16 bits", x.peek(0x5678), 98);
        int[] devices = {65024, 65026, 65028, 65030, 65534};
        int[] due = {0, 0, 32768, 0, 32768};
        for (int i = 0; i < devices.length; i++) {
            x.poke(devices[i], 0x4055);
            c.due("peek of a DEVICE", x.peek(devices[i]), due[i]);
        }
        c.due("nothing was PRINTED", x.printed(), 0);
        c.due("it RUNS", x.state(), 0);
    }

    private static void reads(Check c) {
        SixteenDesk x = new SixteenDesk();
        c.due("KBSR", Check.read(x, 65024), 0);
        c.due("KBDR", Check.read(x, 65026), 0);
        c.due("DSR", Check.read(x, 65028), 32768);
        c.due("DDR", Check.read(x, 65030), 0);
        c.due("MCR", Check.read(x, 65534), 32768);
        x.key(7);
        x.key(8);
        c.due("KBSR with a key", Check.read(x, 65024), 32768);
        c.due("peek(KBDR)", x.peek(65026), 7);
        c.due("no key is gone", x.count(4), 2);
        c.due("KBDR", Check.read(x, 65026), 7);
        c.due("it is gone", x.count(4), 1);
        c.due("KBDR", Check.read(x, 65026), 8);
        c.due("KBDR again", Check.read(x, 65026), 8);
        c.due("peek(KBDR)", x.peek(65026), 8);
        c.due("KBSR", Check.read(x, 65024), 0);
        x.key(9);
        x.poke(0x211, 0xF020);
        x.set(8, 0x211);
        x.run(1);
        c.due("GETC", x.register(0), 9);
        c.due("GETC reads not at KBDR", x.peek(65026), 8);
        x.key(0);
        x.set(8, 65026);
        x.run(1);
        c.due("an instruction READ at KBDR: the key is gone", x.count(4), 0);
        c.due("PC", x.register(8), 65027);
        c.due("KBDR", x.peek(65026), 0);
    }

    private static void writes(Check c) {
        SixteenDesk x = new SixteenDesk();
        Check.store(x, 65024, 0xFFFF);
        c.due("KBSR", x.peek(65024), 0x4000);
        Check.store(x, 65024, 0xBFFF);
        c.due("KBSR", x.peek(65024), 0);
        Check.store(x, 65026, 5);
        c.due("KBDR", x.peek(65026), 0);
        Check.store(x, 65028, 0);
        c.due("DSR", x.peek(65028), 32768);
        Check.store(x, 65030, 0x1241);
        c.due("printed()", x.printed(), 1);
        c.due("print(0)", x.print(0), 0x41);
        c.due("DDR", x.peek(65030), 0);
        Check.store(x, 65025, 77);
        c.due("a WORD between", x.peek(65025), 77);
        Check.store(x, 65534, 0x8000);
        c.due("RUNS", x.state(), 0);
        Check.store(x, 65534, 0x7FFF);
        c.due("HALTED", x.state(), 1);
        c.due("MCR", x.peek(65534), 32768);
    }
}
