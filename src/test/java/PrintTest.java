/** Promises 19 and 20: what is PRINTED, by OUT, PUTS, PUTSP and IN, and how much of it is kept. */
public final class PrintTest {
    public static void main(String[] args) {
        Check c = new Check("PrintTest");
        out(c);
        texts(c);
        anyWord(c);
        bounds(c);
        c.finish();
    }

    private static void out(Check c) {
        SixteenDesk x = new SixteenDesk();
        x.poke(0x3000, 0xF021);
        x.set(0, 0x12FF);
        x.run(1);
        c.due("printed()", x.printed(), 1);
        c.due("print(0)", x.print(0), 255);
        c.due("print(1)", x.print(1), -1);
        c.due("print(-1)", x.print(-1), -1);
        c.due("print(MAX)", x.print(Integer.MAX_VALUE), -1);
        c.due("print(MIN)", x.print(Integer.MIN_VALUE), -1);
        c.due("R0 stays", x.register(0), 0x12FF);
        c.due("PC", x.register(8), 0x3001);
    }

    private static void texts(Check c) {
        String data = ".ORIG x3000\nLEA R0, T\n%s\nHALT\nT .FILL x4142\n.FILL x0043\n.FILL x4400\n.FILL 0\n.FILL x45";
        SixteenDesk x = Check.loaded(data.replace("%s", "PUTS"));
        x.run(2);
        c.due("PUTS", Check.bytes(x), "66 67 0");
        SixteenDesk y = Check.loaded(data.replace("%s", "PUTSP"));
        y.run(2);
        c.due("PUTSP", Check.bytes(y), "66 65 67 0 68");
        SixteenDesk edge = Check.loaded(".ORIG x3000\nLEA R0, T\nPUTSP\nHALT\nT .FILL x0141\n.FILL xC1\n.FILL xFF42\n.FILL x8000\n.FILL 0");
        edge.run(2);
        c.due("PUTSP", Check.bytes(edge), "65 1 193 66 255 0 128");
        SixteenDesk z = Check.loaded(".ORIG x3000\nLEA R0, T\nPUTS\nPUTSP\nHALT\nT .FILL 0");
        z.run(9);
        c.due("an empty text", z.printed(), 0);
        z.load();
        c.due("printed() stays", z.printed(), 0);
    }

    private static void anyWord(Check c) {
        SixteenDesk x = new SixteenDesk();
        x.poke(0x3000, 0xF022);
        x.set(0, 0x2FFE);
        x.poke(0x2FFE, 65);
        x.poke(0x2FFF, 66);
        x.poke(0x3001, 0);
        c.due("run(1)", x.run(1), 1);
        c.due("users PUTS below x3000", Check.bytes(x), "65 66 34");
        SixteenDesk y = new SixteenDesk();
        y.key(70);
        y.key(71);
        y.poke(0x3000, 0xF022);
        y.set(0, 0xFE02);
        y.poke(0xFE03, 72);
        y.poke(0xFE05, 73);
        y.poke(0xFE06, 74);
        y.run(1);
        c.due("users PUTS the DEVICES", Check.bytes(y), "70 72 0 73");
        c.due("no key is gone", y.count(4), 2);
        c.due("no exception", y.count(2), 0);
        SixteenDesk z = new SixteenDesk();
        z.poke(0x3000, 0xF022);
        z.set(0, 65535);
        z.poke(65535, 80);
        z.poke(0, 81);
        z.run(1);
        c.due("PUTS goes round", Check.bytes(z), "80 81");
    }

    // A program fills x4000 on with 4200 words, then prints them.
    private static void bounds(Check c) {
        String text = ".ORIG x3000\nLD R0,A\nLD R1,N\nLD R2,V\nL STR R2,R0,#0\nADD R0,R0,#1\nADD R1,R1,#-1\nBRP L\nLD R0,A\n"
            + "%s\nHALT\nA .FILL x4000\nN .FILL 4200\nV .FILL x4241";
        SixteenDesk x = Check.loaded(text.replace("%s", "PUTS"));
        x.run(20000);
        c.due("HALTED", x.state(), 1);
        c.due("PUTS prints at most", x.printed(), 4096);
        c.due("print(3999)", x.print(3999), 0x41);
        c.due("print(4000)", x.print(4000), -1);
        c.due("print(4095)", x.print(4095), -1);
        SixteenDesk y = Check.loaded(text.replace("%s", "PUTSP"));
        y.run(20000);
        c.due("PUTSP prints at most", y.printed(), 8192);
        c.due("print(3998)", y.print(3998), 0x41);
        c.due("print(3999)", y.print(3999), 0x42);
        c.due("print(4000)", y.print(4000), -1);
    }
}
