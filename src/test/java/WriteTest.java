/** Promises 16 to 18: words WRITTEN as LINES, and read again. */
public final class WriteTest {
    public static void main(String[] args) {
        Check c = new Check("WriteTest");
        lines(c);
        asks(c);
        c.finish();
    }

    private static void lines(Check c) {
        Object[][] rows = {
            {0x0000, ".FILL x0000"}, {0x01FF, ".FILL x01FF"}, {0x0200, "BRP #0"}, {0x05FF, "BRZ #-1"}, {0x0800, "BRN #0"},
            {0x06FF, "BRZP #255"}, {0x0B00, "BRNP #-256"}, {0x0C0A, "BRNZ #10"}, {0x0E63, "BRNZP #99"}, {0x0E64, "BRNZP #100"},
            {0x1283, "ADD R1, R2, R3"}, {0x128B, ".FILL x128B"}, {0x1293, ".FILL x1293"}, {0x12B0, "ADD R1, R2, #-16"},
            {0x1FEF, "ADD R7, R7, #15"}, {0x5283, "AND R1, R2, R3"}, {0x529B, ".FILL x529B"}, {0x5020, "AND R0, R0, #0"},
            {0x2FFF, "LD R7, #-1"}, {0x3001, "ST R0, #1"}, {0xA409, "LDI R2, #9"}, {0xB60A, "STI R3, #10"}, {0xE900, "LEA R4, #-256"},
            {0x4800, "JSR #0"}, {0x4BFF, "JSR #1023"}, {0x4C00, "JSR #-1024"}, {0x4140, "JSRR R5"}, {0x41C0, "JSRR R7"},
            {0x4340, ".FILL x4340"}, {0x4540, ".FILL x4540"}, {0x4141, ".FILL x4141"}, {0x4160, ".FILL x4160"},
            {0x62A0, "LDR R1, R2, #-32"}, {0x771F, "STR R3, R4, #31"}, {0x8000, "RTI"}, {0x8001, ".FILL x8001"}, {0x8800, ".FILL x8800"},
            {0x9BBF, "NOT R5, R6"}, {0x9BBE, ".FILL x9BBE"}, {0x9B9F, ".FILL x9B9F"}, {0xC0C0, "JMP R3"}, {0xC1C0, "RET"},
            {0xC1C1, ".FILL xC1C1"}, {0xC3C0, ".FILL xC3C0"}, {0xD000, ".FILL xD000"}, {0xDEAF, ".FILL xDEAF"},
            {0xF000, "TRAP x00"}, {0xF01F, "TRAP x1F"}, {0xF020, "GETC"}, {0xF021, "OUT"}, {0xF022, "PUTS"}, {0xF023, "IN"},
            {0xF024, "PUTSP"}, {0xF025, "HALT"}, {0xF026, "TRAP x26"}, {0xF0FF, "TRAP xFF"}, {0xF125, ".FILL xF125"}, {0xF800, ".FILL xF800"},
        };
        for (Object[] row : rows) {
            SixteenDesk x = new SixteenDesk();
            x.poke(0x1234, (Integer) row[0]);
            c.due("the LINE of " + row[1], Check.line(x, 0x1234), (String) row[1]);
        }
    }

    private static void asks(Check c) {
        SixteenDesk x = new SixteenDesk();
        c.due("written(0) ahead of any", x.written(0), -1);
        x.poke(65535, 0xF020);
        c.due("write(-1)", Check.line(x, -1), "GETC");
        c.due("written(4)", x.written(4), -1);
        c.due("written(-1)", x.written(-1), -1);
        c.due("written(MAX)", x.written(Integer.MAX_VALUE), -1);
        c.due("written(MIN)", x.written(Integer.MIN_VALUE), -1);
        x.poke(65535, 0);
        c.due("the LINE stays as it was WRITTEN", x.written(0), 'G');
        x.key(0x41);
        x.key(0x42);
        c.due("KBSR", Check.line(x, 65024), "RTI");
        c.due("KBDR", Check.line(x, 65026), ".FILL x0041");
        c.due("no key is gone", x.count(4), 2);
        c.due("DSR", Check.line(x, 65028), "RTI");
        c.due("DDR", Check.line(x, 65030), ".FILL x0000");
        c.due("MCR", Check.line(x, 65534), "RTI");
        x.poke(7, 0xF023);
        x.write(7);
        c.due("a shorter LINE behind a longer one", x.written(2), -1);
    }
}
