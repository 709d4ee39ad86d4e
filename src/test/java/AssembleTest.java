import java.util.NoSuchElementException;

/** Promises 4 to 7: what right texts are assembled to. */
public final class AssembleTest {
    public static void main(String[] args) {
        Check c = new Check("AssembleTest");
        instructions(c);
        tokens(c);
        numbers(c);
        labels(c);
        data(c);
        edges(c);
        stays(c);
        c.finish();
    }

    private static void dueOne(Check c, String line, String want) {
        c.dueWords(".ORIG x3000\n" + line, want);
    }

    private static void instructions(Check c) {
        String[][] rows = {
            {"ADD R1, R2, R3", "1283"}, {"ADD R7,R7,#-16", "1FF0"}, {"ADD R0 R0 15", "102F"},
            {"AND R1, R2, R3", "5283"}, {"AND R0,R0,#0", "5020"}, {"NOT R5, R6", "9BBF"},
            {"BR #0", "0E00"}, {"BRN #1", "0801"}, {"BRZ #-1", "05FF"}, {"BRP #255", "02FF"}, {"BRNZ #-256", "0D00"},
            {"BRNP 2", "0A02"}, {"BRZP 3", "0603"}, {"BRNZP 4", "0E04"},
            {"LD R1, #5", "2205"}, {"LDI R2, #-5", "A5FB"}, {"LEA R3, #255", "E6FF"}, {"ST R4, #-256", "3900"},
            {"STI R5, #0", "BA00"}, {"LDR R1, R2, #-32", "62A0"}, {"STR R3, R4, #31", "771F"},
            {"JMP R3", "C0C0"}, {"JMP R7", "C1C0"}, {"RET", "C1C0"}, {"JSR #-1024", "4C00"}, {"JSR #1023", "4BFF"},
            {"JSRR R5", "4140"}, {"RTI", "8000"}, {"TRAP x00", "F000"}, {"TRAP xFF", "F0FF"},
            {"GETC", "F020"}, {"OUT", "F021"}, {"PUTS", "F022"}, {"IN", "F023"}, {"PUTSP", "F024"}, {"HALT", "F025"},
        };
        for (String[] row : rows) {
            dueOne(c, row[0], row[1]);
            dueOne(c, row[0].toLowerCase(), row[1]);
        }
    }

    private static void tokens(Check c) {
        dueOne(c, ",,ADD,R1\tR2 ,\r,R3,,;rest \"!\u00ff", "1283");
        c.dueWords("\n ; note\n\t,\r\n.orig 5 ; here\n\nhalt\n\n", "F025");
        c.dueWords(".ORIG 5\n.STRINGZ\"a;b\";c", "0061 003B 0062 0000");
        c.dueWords(".ORIG 5\nHALT\n.END\n!! \" nothing is read here\nHALT", "F025");
        c.dueWords(".ORIG 5\nHALT\nL .END ; x", "F025");
        c.dueWords("\n\n.ORIG 5\nHALT\n.END\n", "F025");
        c.dueWords(".ORIG 5", "");
        c.dueWords(".ORIG 5\n.END", "");
    }

    private static void numbers(Check c) {
        String[][] rows = {
            {"0", "0000"}, {"#0", "0000"}, {"-0", "0000"}, {"65535", "FFFF"}, {"-32768", "8000"}, {"#-1", "FFFF"},
            {"000012", "000C"}, {"#000012", "000C"}, {"x0FFFF", "FFFF"}, {"X-8000", "8000"}, {"xabc", "0ABC"},
            {"x-0001", "FFFF"}, {"xF", "000F"},
        };
        for (String[] row : rows) {
            dueOne(c, ".FILL " + row[0], row[1]);
        }
    }

    private static void labels(Check c) {
        String text = ".ORIG x3000\nA\nB ADD R0,R0,R0\nLoop_1 BR loop_1\nJSR A\nLD R0, Z\n.FILL b\nR8 .BLKW 2\nZ";
        c.dueWords(text, "1000 0FFF 4FFD 2003 3000 0000 0000");
        SixteenDesk x = new SixteenDesk();
        Check.assemble(x, text);
        c.due("labels", Check.labels(x), "12288 12288 12289 12293 12295");
        c.due("told(2)", x.told(2), 7);
        c.due("told(3)", x.told(3), 12288);
        c.due("told(4)", x.told(4), 5);
        int[] wrong = {-1, 7, Integer.MAX_VALUE, Integer.MIN_VALUE};
        for (int i : wrong) {
            c.dueThrow("word(" + i + ")", NoSuchElementException.class, () -> x.word(i));
        }
        int[] none = {-1, 5, 200, Integer.MAX_VALUE, Integer.MIN_VALUE};
        for (int i : none) {
            c.dueThrow("label(" + i + ")", NoSuchElementException.class, () -> x.label(i));
        }
        int[] others = {-1, 5, Integer.MAX_VALUE, Integer.MIN_VALUE};
        for (int i : others) {
            c.dueThrow("told(" + i + ")", NoSuchElementException.class, () -> x.told(i));
        }
        String[] names = {
            "X", "XG", "XABCDEF", "X_1", "R", "R8", "R00", "R77", "BRZN", "BRX", "ORIG", "FILL", "END", "ADDS", "A_", "Q9",
            "ABCDEFGHIJKLMNOPQRST", "XA_B", "B",
        };
        for (String name : names) {
            c.dueWords(".ORIG 9\n" + name + " .FILL " + name.toLowerCase(), "0009");
        }
        c.dueWords(".ORIG 9\nABCDEFGHIJKLMNOPQRST .FILL ABCDEFGHIJKLMNOPQRSU\nABCDEFGHIJKLMNOPQRSU", "000A");
        c.dueWords(".ORIG 9\nA9 .FILL A_\nA_", "000A");
        c.dueWords(".ORIG 9\nABCDEFGHIJ .FILL ABCDEFGHIJK\nABCDEFGHIJK", "000A");
    }

    private static void data(Check c) {
        c.dueWords(".ORIG 0\n.STRINGZ \"\"", "0000");
        c.dueWords(".ORIG 0\n.stringz \"aZ \\n\\t\\0\\\"\\\\~,;\"", "0061 005A 0020 000A 0009 0000 0022 005C 007E 002C 003B 0000");
        c.dueWords(".ORIG 0\n.BLKW 3\nHALT", "0000 0000 0000 F025");
    }

    private static void edges(Check c) {
        c.dueWords(".ORIG xFFFF\nE BR F\nF", "0E00");
        c.dueWords(".ORIG xFFFE\n.FILL F\nHALT\nF", "0000 F025");
        c.dueWords(".ORIG 65535\nHALT", "F025");
        c.dueWords(".ORIG 65535\n.BLKW 1", "0000");
        c.dueWords(".ORIG 65534\n.STRINGZ \"a\"\nE", "0061 0000");
        StringBuilder far = new StringBuilder(".ORIG 0\nB BR A\n.BLKW 255\nA BR B");
        SixteenDesk x = new SixteenDesk();
        c.due("distance 255 and -257", Check.assemble(x, far.toString()), 6);
        c.due("distance 255 and -256", Check.assemble(x, ".ORIG 0\nBR A\nB .BLKW 255\nA BR B"), 0);
        c.due("word(0)", x.word(0), 0x0EFF);
        c.due("word(256)", x.word(256), 0x0F00);
        c.due("JSR 1023 and -1024", Check.assemble(x, ".ORIG 0\nJSR A\nB .BLKW 1023\nA JSR B"), 0);
        c.due("word(0)", x.word(0), 0x4BFF);
        c.due("word(1024)", x.word(1024), 0x4C00);
        c.due("4096 WORDS", Check.assemble(x, ".ORIG 0\n.BLKW 4095\nHALT\nE"), 0);
        c.due("told(2)", x.told(2), 4096);
        c.due("word(4095)", x.word(4095), 0xF025);
        c.due("label(0)", x.label(0), 4096);
        c.due(".BLKW 4096", Check.assemble(x, ".ORIG xF000\n.BLKW x1000"), 0);
        c.due("told(2)", x.told(2), 4096);
        c.due("200 LABELS", Check.assemble(x, Check.manyLabels(200) + ".FILL L199"), 0);
        c.due("told(4)", x.told(4), 200);
        c.due("label(199)", x.label(199), 0x3000);
    }

    private static void stays(Check c) {
        SixteenDesk x = new SixteenDesk();
        Check.assemble(x, ".ORIG 5\nA HALT\n.FILL A");
        c.due("a FAULT", Check.assemble(x, ".ORIG 7\nB RET\nC RET\nBR B\nBR D"), 5);
        c.due("told(0)", x.told(0), 5);
        c.due("told(1)", x.told(1), 28);
        c.due("words stay", Check.words(x), "F025 0005");
        c.due("labels stay", Check.labels(x), "5");
        c.due("told(3) stays", x.told(3), 5);
        c.due("a right text", Check.assemble(x, ".ORIG 6\n.FILL 1"), 0);
        c.due("told(0)", x.told(0), 0);
        c.due("told(1)", x.told(1), -1);
        c.due("words", Check.words(x), "0001");
        c.due("labels", Check.labels(x), "");
        c.due("told(3)", x.told(3), 6);
    }
}
