/** The boundary cases that 'Terms' 4 names (how a WORD is WRITTEN). Each method holds the sentence that it quotes. */
public final class Terms4EdgesTest {
    private static final Check C = new Check("Terms4EdgesTest");
    private static final String[] TRAPS = {"GETC", "OUT", "PUTS", "IN", "PUTSP", "HALT"};
    private static final String[] BRANCHES = {"", "BRP", "BRZ", "BRZP", "BRN", "BRNP", "BRNZ", "BRNZP"};

    public static void main(String[] args) {
        noLabelNoLineEnd();
        branches();
        traps();
        ret();
        blanksAndCommas();
        registers();
        decimals();
        hexadecimals();
        fills();
        branchesWithoutSigns();
        bitsThatAreNotAsSet();
        thirteen();
        everyWord();
        linesGiveTheirWords();
        C.finish();
    }

    private static void due(int word, String want) {
        SixteenDesk x = new SixteenDesk();
        x.poke(0x4000, word);
        C.due(String.format("the LINE of %04X", word), Check.line(x, 0x4000), want);
        C.due("written(" + want.length() + ")", x.written(want.length()), -1);
    }

    private static void dueFill(int word) {
        due(word, String.format(".FILL x%04X", word));
    }

    private static void noLabelNoLineEnd() {
        C.sentence("Terms 4", "A WORD at a place is told as a LINE without LABEL or LINE end");
        int[] places = {0, 1, 0x3000, 65535};
        for (int place : places) {
            SixteenDesk x = new SixteenDesk();
            x.poke(place, 0x0FFF);
            C.due("write(" + place + ")", x.write(place), "BRNZP #-1".length());
            C.due("the LINE", Check.line(x, place), "BRNZP #-1");
            C.due("written(9)", x.written(9), -1);
        }
    }

    private static void branches() {
        C.sentence("Terms 4", "the NAME as above (BRN, BRNZP, ..;");
        for (int signs = 1; signs < 8; signs++) {
            due(signs << 9, BRANCHES[signs] + " #0");
        }
    }

    private static void traps() {
        C.sentence("Terms 4", "of TRAP 32 to 37 with bits 11 to 8 0 GETC .. HALT;");
        for (int v = 32; v <= 37; v++) {
            due(0xF000 | v, TRAPS[v - 32]);
            for (int bit = 8; bit < 12; bit++) {
                dueFill(0xF000 | v | 1 << bit);
            }
        }
        due(0xF01F, "TRAP x1F");
        due(0xF026, "TRAP x26");
    }

    private static void ret() {
        C.sentence("Terms 4", "JMP R7 as RET)");
        due(0xC1C0, "RET");
        due(0xC180, "JMP R6");
        due(0xC000, "JMP R0");
        due(0x41C0, "JSRR R7");
    }

    private static void blanksAndCommas() {
        C.sentence("Terms 4", "then a blank, and what it takes, with \", \" between");
        due(0x8000, "RTI");
        due(0x4000, "JSRR R0");
        due(0x9FFF, "NOT R7, R7");
        due(0x1FC7, "ADD R7, R7, R7");
        due(0x5000, "AND R0, R0, R0");
    }

    private static void registers() {
        C.sentence("Terms 4", "REGISTERS");
        for (int r = 0; r < 8; r++) {
            due(0x1000 | r << 9 | (7 - r) << 6 | r, "ADD R" + r + ", R" + (7 - r) + ", R" + r);
            due(0x903F | r << 9 | (7 - r) << 6, "NOT R" + r + ", R" + (7 - r));
        }
    }

    private static void decimals() {
        C.sentence("Terms 4", "NUMBERS in decimals behind #");
        due(0x1020, "ADD R0, R0, #0");
        due(0x102F, "ADD R0, R0, #15");
        due(0x1030, "ADD R0, R0, #-16");
        due(0x503F, "AND R0, R0, #-1");
        due(0x601F, "LDR R0, R0, #31");
        due(0x6020, "LDR R0, R0, #-32");
        due(0x703F, "STR R0, R0, #-1");
        int[][] distances = {{0, 0}, {9, 9}, {10, 10}, {99, 99}, {100, 100}, {255, 255}, {256, -256}, {412, -100}, {413, -99}, {503, -9}, {511, -1}};
        String[][] codes = {{"2", "LD"}, {"A", "LDI"}, {"E", "LEA"}, {"3", "ST"}, {"B", "STI"}};
        for (int[] row : distances) {
            for (String[] code : codes) {
                due(Integer.parseInt(code[0], 16) << 12 | row[0], code[1] + " R0, #" + row[1]);
            }
            due(0x0E00 | row[0], "BRNZP #" + row[1]);
        }
        due(0x4800, "JSR #0");
        due(0x4BE7, "JSR #999");
        due(0x4BE8, "JSR #1000");
        due(0x4BFF, "JSR #1023");
        due(0x4C00, "JSR #-1024");
        due(0x4C19, "JSR #-999");
        due(0x4FFF, "JSR #-1");
    }

    private static void hexadecimals() {
        C.sentence("Terms 4", "(TRAP's x and two signs of 0 to 9, A to F)");
        due(0xF000, "TRAP x00");
        due(0xF009, "TRAP x09");
        due(0xF00A, "TRAP x0A");
        due(0xF0A0, "TRAP xA0");
        due(0xF0FF, "TRAP xFF");
    }

    private static void fills() {
        C.sentence("Terms 4", "A WORD that no such LINE gives: .FILL x and four such signs.");
        due(0, ".FILL x0000");
        due(0x000F, ".FILL x000F");
        due(0xDEAF, ".FILL xDEAF");
        due(0xFFFF, ".FILL xFFFF");
    }

    private static void branchesWithoutSigns() {
        C.sentence("Terms 4", "(So BR without N, Z, P");
        int[] words = {0, 1, 0x0FF, 0x100, 0x1FF};
        for (int word : words) {
            dueFill(word);
        }
        due(0x0200, "BRP #0");
    }

    // Each bit that is not as the assembler sets it, alone.
    private static void bitsThatAreNotAsSet() {
        C.sentence("Terms 4", "bits that are not as the assembler sets them");
        int[][] rows = {{0x1283, 3, 4}, {0x5283, 3, 4}, {0x4140, 0, 5}, {0x4140, 9, 10}, {0xC140, 0, 5}, {0xC140, 9, 11}, {0x8000, 0, 11}, {0xF080, 8, 11}};
        for (int[] row : rows) {
            for (int bit = row[1]; bit <= row[2]; bit++) {
                dueFill(row[0] | 1 << bit);
            }
        }
        for (int bit = 0; bit < 6; bit++) {
            dueFill(0x92BF & ~(1 << bit));
        }
        dueFill(0xC1C1);
        dueFill(0xC3C0);
    }

    private static void thirteen() {
        C.sentence("Terms 4", "13.)");
        dueFill(0xD000);
        dueFill(0xD5A5);
        dueFill(0xDFFF);
    }

    private static int signed(int word, int bits) {
        return word << 32 - bits >> 32 - bits;
    }

    /** A word's LINE, by the words of 'Terms' 4 alone. */
    private static String lineOf(int w) {
        String d = " R" + (w >> 9 & 7);
        String a = "R" + (w >> 6 & 7);
        String near = ", #" + signed(w, 9);
        String fill = String.format(".FILL x%04X", w);
        String third = ", " + ((w & 32) != 0 ? "#" + signed(w, 5) : "R" + (w & 7));
        boolean plain = (w & 32) != 0 || (w & 24) == 0;
        switch (w >> 12) {
            case 0: return (w & 0xE00) == 0 ? fill : BRANCHES[w >> 9] + " #" + signed(w, 9);
            case 1: return plain ? "ADD" + d + ", " + a + third : fill;
            case 2: return "LD" + d + near;
            case 3: return "ST" + d + near;
            case 4: return (w & 0x800) != 0 ? "JSR #" + signed(w, 11) : (w & 0x63F) == 0 ? "JSRR " + a : fill;
            case 5: return plain ? "AND" + d + ", " + a + third : fill;
            case 6: return "LDR" + d + ", " + a + ", #" + signed(w, 6);
            case 7: return "STR" + d + ", " + a + ", #" + signed(w, 6);
            case 8: return w == 0x8000 ? "RTI" : fill;
            case 9: return (w & 63) == 63 ? "NOT" + d + ", " + a : fill;
            case 10: return "LDI" + d + near;
            case 11: return "STI" + d + near;
            case 12: return (w & 0xE3F) != 0 ? fill : w == 0xC1C0 ? "RET" : "JMP " + a;
            case 13: return fill;
            case 14: return "LEA" + d + near;
            default:
                int v = w & 255;
                return (w & 0xF00) != 0 ? fill : v >= 32 && v <= 37 ? TRAPS[v - 32] : String.format("TRAP x%02X", v);
        }
    }

    // Twenty words an object, which keeps each within its 512 calls.
    private static void everyWord() {
        C.sentence("Terms 4", "A WORD at a place is told as a LINE");
        for (int from = 0; from < 65536; from += 20) {
            SixteenDesk x = new SixteenDesk();
            for (int word = from; word < from + 20 && word < 65536; word++) {
                x.poke(from, word);
                C.due("the LINE of " + word, Check.line(x, from), lineOf(word));
            }
        }
    }

    // A hundred words an object; each LINE comes to the TAPE and is read as the word that it tells.
    private static void linesGiveTheirWords() {
        C.sentence("Terms 4", "A WORD that no such LINE gives: .FILL x and four such signs.");
        for (int from = 0; from < 65536; from += 100) {
            SixteenDesk x = new SixteenDesk();
            Check.feed(x, 0, ".ORIG 0\n");
            int size = Math.min(100, 65536 - from);
            for (int i = 0; i < size; i++) {
                x.poke(0, from + i);
                x.write(0);
                x.again();
            }
            C.due("FAULT of the LINES from " + from, x.assemble(), 0);
            C.due("told(2)", x.told(2), size);
            for (int i = 0; i < size; i++) {
                C.due("the word of a LINE", x.word(i), from + i);
            }
        }
    }
}
