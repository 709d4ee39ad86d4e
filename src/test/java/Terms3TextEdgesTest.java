/** The boundary cases that 'Terms' 3 names of right texts and their TOKENS. Each method holds the sentence that it quotes. */
public final class Terms3TextEdgesTest {
    private static final Check C = new Check("Terms3TextEdgesTest");
    private static final String ORIG = ".ORIG x3000\n";
    private static final String[] NAMES = {
        "ADD", "AND", "NOT", "LD", "LDI", "LEA", "ST", "STI", "LDR", "STR", "JMP", "JSR", "JSRR", "RET", "RTI", "TRAP", "GETC", "OUT",
        "PUTS", "IN", "PUTSP", "HALT", "BR", "BRN", "BRZ", "BRP", "BRNZ", "BRNP", "BRZP", "BRNZP",
    };

    public static void main(String[] args) {
        fullTape();
        linesEnd();
        notesAreNothing();
        notesInQuotes();
        whatPartsTokens();
        wordsAreAsLongAsTheyCanBe();
        bytesOfTexts();
        backslashes();
        smallLetters();
        smallLettersInTexts();
        decimals();
        hexadecimals();
        registers();
        labels();
        labelsAreToldApart();
        labelsThatAreNone();
        branchNames();
        emptyLines();
        placesOfLabels();
        firstLine();
        noOtherOrig();
        behindEnd();
        placesOfWords();
        oneWordEach();
        bitsThatAreNotTold();
        distances();
        fillOfALabel();
        lastPlaceOfAll();
        C.finish();
    }

    private static void dueOne(String line, String want) {
        C.dueWords(ORIG + line, want);
    }

    private static void fullTape() {
        C.sentence("Terms 3", "The TAPE has at most 4,000 bytes.");
        StringBuilder text = new StringBuilder(".ORIG 0\n");
        while (text.length() < 3996) {
            text.append(' ');
        }
        C.dueWords(text + "HALT", "F025");
        C.dueFault(1, 4000, text + "ADD ");
    }

    private static void linesEnd() {
        C.sentence("Terms 3", "A text's LINES end with a byte 10, or the text's end.");
        C.dueWords(".ORIG 5\nHALT", "F025");
        C.dueWords(".ORIG 5\nHALT\n", "F025");
        C.dueWords(".ORIG 5\n\n\nHALT\n\n", "F025");
        C.dueWords(".ORIG 5", "");
        C.dueFault(1, ".ORIG 5\r|HALT");
        C.dueFault(1, ".ORIG 5\n.STRINGZ |\"a\n\"");
    }

    private static void notesAreNothing() {
        C.sentence("Terms 3", "In a LINE what stands from ; on is nothing");
        dueOne("HALT;", "F025");
        dueOne("HALT;HALT ! \" \u0000\u00ff ;", "F025");
        dueOne(";\nHALT", "F025");
        dueOne("; \"\nHALT", "F025");
        C.dueWords(";.ORIG 5\n.ORIG 6;\nHALT;", "F025");
        C.dueFault(1, ".ORIG 5\nADD R0,R1;,R2|\nR2");
        C.dueFault(1, ".ORIG 5\nADD R0,R1;,R2|");
    }

    private static void notesInQuotes() {
        C.sentence("Terms 3", "(not in quotes)");
        dueOne(".STRINGZ \";\"", "003B 0000");
        dueOne(".STRINGZ \"a;b\";c\"", "0061 003B 0062 0000");
        C.dueFault(1, ".ORIG 5\n.STRINGZ |\"a;b");
    }

    private static boolean isOfWords(int b) {
        return b >= 'A' && b <= 'Z' || b >= 'a' && b <= 'z' || b >= '0' && b <= '9' || b == '_' || b == '.' || b == '#' || b == '-';
    }

    // Every byte between the two REGISTERS of 'NOT R1?R2'.
    private static void whatPartsTokens() {
        C.sentence("Terms 3", "Blanks (9, 13, 32) and , part TOKENS");
        for (int b = 0; b < 256; b++) {
            String text = ".ORIG 5\nNOT R1" + (char) b + "R2";
            if (b == 9 || b == 13 || b == 32 || b == ',') {
                C.dueWords(text, "92BF");
            } else if (b == ';') {
                C.dueFault(1, text.length(), text);
            } else {
                C.dueFault(1, isOfWords(b) ? 12 : 14, text);
            }
        }
        dueOne(" ,\t\r,NOT,,R1 , R2,\r\t ", "92BF");
    }

    private static void wordsAreAsLongAsTheyCanBe() {
        C.sentence("Terms 3", "a WORD: letters, digits, _ . # - (as many as there are)");
        C.dueFault(1, ORIG + "NOT |R1-R2");
        C.dueFault(1, ORIG + "NOT R1 |R2#");
        C.dueFault(1, ORIG + "|ADD#1");
        C.dueFault(1, ORIG + "A |HALT.END");
        C.dueFault(1, ORIG + ".FILL |5_");
        C.dueFault(1, ORIG + ".FILL |5.");
        dueOne(".STRINGZ\"a\"", "0061 0000");
        C.dueFault(1, ORIG + ".STRINGZ \"a\"|b");
    }

    // Every byte between the quotes.
    private static void bytesOfTexts() {
        C.sentence("Terms 3", "a TEXT: \" , bytes 32 to 126 but \" and backslash");
        dueOne(".STRINGZ \"\"", "0000");
        for (int b = 0; b < 256; b++) {
            String text = ORIG + ".STRINGZ \"" + (char) b + "\"";
            if (b == '"') {
                C.dueFault(1, ORIG.length() + 11, text);
            } else if (b >= 32 && b <= 126 && b != '\\') {
                C.dueWords(text, String.format("%04X 0000", b));
            } else {
                C.dueFault(1, ORIG.length() + 9, text);
            }
        }
    }

    // Every byte behind a backslash.
    private static void backslashes() {
        C.sentence("Terms 3", "or backslash with n (10), t (9), 0 (0), \" or backslash, then \" .");
        int[][] right = {{'n', 10}, {'t', 9}, {'0', 0}, {'"', 34}, {'\\', 92}};
        for (int b = 0; b < 256; b++) {
            int means = -1;
            for (int[] row : right) {
                means = row[0] == b ? row[1] : means;
            }
            String text = ORIG + ".STRINGZ \"a\\" + (char) b + "b\"";
            if (means >= 0) {
                C.dueWords(text, String.format("0061 %04X 0062 0000", means));
            } else {
                C.dueFault(1, ORIG.length() + 9, text);
            }
        }
        C.dueFault(1, ORIG + ".STRINGZ |\"");
        C.dueFault(1, ORIG + ".STRINGZ |\"\\");
        C.dueFault(1, ORIG + ".STRINGZ |\"\\\"");
        dueOne(".STRINGZ \"\\\\\"", "005C 0000");
    }

    private static void smallLetters() {
        C.sentence("Terms 3", "Small letters are read as great ones");
        C.dueWords(".orig xfFfF\nnOt r1,R2", "92BF");
        C.dueWords(".ORIG 9\nLoop .FILL lOOP", "0009");
        C.dueFault(3, ".ORIG 9\nazAZ\n|AZaz");
        C.dueFault(1, ".ORIG 9\n.FILL |r7");
        C.dueFault(1, ".ORIG 9\n.FILL |brnzp");
        C.dueWords(".ORIG 9\n.FILL xabcdef\nXABCDEF .FILL X-7fff", "000A 8001");
    }

    private static void smallLettersInTexts() {
        C.sentence("Terms 3", ", but in TEXTS.");
        dueOne(".stringz \"azAZ\"", "0061 007A 0041 005A 0000");
        C.dueFault(1, ORIG + ".STRINGZ |\"\\N\"");
        C.dueFault(1, ORIG + ".STRINGZ |\"\\T\"");
    }

    private static void dueNumber(String number, int want) {
        dueOne(".FILL " + number, String.format("%04X", want));
    }

    private static void dueNoNumber(String... words) {
        for (String word : words) {
            C.dueFault(1, ORIG + "TRAP |" + word);
        }
    }

    private static void decimals() {
        C.sentence("Terms 3", "A NUMBER: # or nothing, perhaps -, one to six digits;");
        dueNumber("0", 0);
        dueNumber("#7", 7);
        dueNumber("-1", 65535);
        dueNumber("#-1", 65535);
        dueNumber("-0", 0);
        dueNumber("000009", 9);
        dueNumber("#-000009", 65527);
        dueNumber("065535", 65535);
        C.dueFault(2, ORIG + ".FILL |999999");
        C.dueFault(2, ORIG + ".FILL |#-999999");
        dueNoNumber("#", "-", "#-", "0000009", "#0000009", "-0000000", "--5", "##5", "-#5", "5-", "5#", "#x5", "1A", "#A", "-A", ".5", "5.");
    }

    private static void hexadecimals() {
        C.sentence("Terms 3", "or X, perhaps -, one to five of 0 to 9, A to F.");
        dueNumber("x0", 0);
        dueNumber("XF", 15);
        dueNumber("x-1", 65535);
        dueNumber("x00009", 9);
        dueNumber("x-0000A", 65526);
        dueNumber("x0FFFF", 65535);
        dueNumber("xA9F0", 0xA9F0);
        for (int digit = 0; digit < 16; digit++) {
            dueNumber("x" + Integer.toHexString(digit), digit);
            dueNumber("X0" + Integer.toHexString(digit).toUpperCase() + "0", digit * 16);
        }
        C.dueFault(2, ORIG + ".FILL |xFFFFF");
        C.dueFault(2, ORIG + ".FILL |x-FFFFF");
        dueNoNumber("x", "x-", "x000009", "x-000009", "xG", "x-G", "x1G", "x--1", "x#1", "-x1", "#x1", "0x1", "x1-", "x1.");
    }

    private static void registers() {
        C.sentence("Terms 3", "A REGISTER: R0 to R7.");
        for (int r = 0; r < 8; r++) {
            dueOne("JSRR R" + r, String.format("%04X", 0x4000 | r << 6));
            dueOne("JSRR r" + r, String.format("%04X", 0x4000 | r << 6));
            C.dueFault(1, ORIG + "BR |R" + r);
        }
        String[] none = {"R8", "R9", "R", "R00", "R10", "R-1", "R#1", "R_", "RA", "S0", "Q7", "7", "#R7"};
        for (String word : none) {
            C.dueFault(1, ORIG + "JMP |" + word);
        }
    }

    private static void labels() {
        C.sentence("Terms 3", "A LABEL: a letter, then letters, digits, _ , at most 20 in all");
        String[] right = {"A", "Z", "b", "A0", "Z9", "A_", "A__", "ABCDEFGHIJKLMNOPQRST", "A1234567890123456789", "A___________________"};
        for (String name : right) {
            C.dueWords(".ORIG 9\n" + name + " .FILL " + name, "0009");
        }
        String[] wrong = {
            "ABCDEFGHIJKLMNOPQRSTU", "A12345678901234567890", "ABCDEFGHIJKLMNOPQRSTUVWXYZABCDEFGHIJKLMNOPQRSTUVWXYZ", "_A", "0A", "9", "A.", "A#",
            "A-", ".A", "#A", "-A", "_",
        };
        for (String name : wrong) {
            C.dueFault(1, ".ORIG 9\n|" + name + " HALT");
        }
        C.dueWords(".ORIG 9\nABCDEFGHIJKLMNOPQRST\n.FILL 0\nABCDEFGHIJKLMNOPQRSU .FILL ABCDEFGHIJKLMNOPQRST", "0000 0009");
    }

    // LABELS that differ in one sign, at each of their twenty places by each sign, or in the order of two, or in their length.
    private static void labelsAreToldApart() {
        C.sentence("Terms 3", "A LABEL: a letter, then letters, digits, _ , at most 20 in all");
        String signs = "ABCDEFGHIJKLMNOPQRSTUVWXYZ0123456789_";
        StringBuilder text = new StringBuilder(".ORIG 9\n");
        StringBuilder want = new StringBuilder();
        for (int i = 0; i < signs.length(); i++) {
            text.append('Q').append(signs.charAt(i)).append(" .FILL q").append(signs.substring(i, i + 1).toLowerCase()).append('\n');
            want.append(i == 0 ? "" : " ").append(String.format("%04X", 9 + i));
        }
        C.dueWords(text.toString(), want.toString());
        String name = "ABCDEFGHIJKLMNOPQRST";
        for (int i = 0; i < 20; i++) {
            for (int j = 0; j < (i == 0 ? 26 : signs.length()); j++) {
                String other = name.substring(0, i) + signs.charAt(j) + name.substring(i + 1);
                if (!other.equals(name)) {
                    dueApart(name, other);
                }
            }
        }
        for (int i = 0; i < 19; i++) {
            String other = name.substring(0, i) + name.charAt(i + 1) + name.charAt(i) + name.substring(i + 2);
            dueApart(name, other);
        }
        for (int length = 2; length < 20; length++) {
            dueApart(name, name.substring(0, length));
        }
    }

    private static void dueApart(String name, String other) {
        C.dueWords(".ORIG 9\n" + name + " .FILL " + other + "\n" + other + " .FILL " + name, "000A 0009");
    }

    private static void labelsThatAreNone() {
        C.sentence("Terms 3", "that is no NUMBER, no REGISTER, and no NAME: ADD AND NOT LD LDI LEA ST STI LDR STR JMP JSR JSRR RET RTI TRAP GETC OUT PUTS IN PUTSP HALT");
        for (String name : NAMES) {
            C.dueFault(1, ".ORIG 9\n.FILL |" + name);
            C.dueFault(1, ".ORIG 9\n.FILL |" + name.toLowerCase());
            C.dueWords(".ORIG 9\n" + name + "_ .FILL " + name + "_", "0009");
        }
        String[] none = {"xA", "XFFFFF", "x1", "R0", "r7"};
        for (String word : none) {
            C.dueFault(1, ".ORIG 9\n|" + word + " HALT");
        }
        String[] right = {"X", "XFFFFFF", "XG", "R8", "R", "ORIG", "FILL", "BLKW", "STRINGZ", "END", "ADDR", "HAL", "B"};
        for (String name : right) {
            C.dueWords(".ORIG 9\n" + name + " .FILL " + name, "0009");
        }
    }

    private static void branchNames() {
        C.sentence("Terms 3", "BR with N, Z, P (each or not, in this order) behind.");
        String[][] rows = {
            {"BR", "0E01"}, {"BRN", "0801"}, {"BRZ", "0401"}, {"BRP", "0201"}, {"BRNZ", "0C01"}, {"BRNP", "0A01"}, {"BRZP", "0601"},
            {"BRNZP", "0E01"},
        };
        for (String[] row : rows) {
            dueOne(row[0] + " 1", row[1]);
        }
        String[] others = {"BRNN", "BRZN", "BRPN", "BRPZ", "BRNPZ", "BRZNP", "BRZPN", "BRPNZ", "BRPZN", "BRNZPP", "BRX", "BR1", "B"};
        for (String name : others) {
            C.dueFault(1, ORIG + name + " |1");
            C.dueWords(".ORIG 9\n" + name + " .FILL " + name, "0009");
        }
    }

    private static void emptyLines() {
        C.sentence("Terms 3", "A LINE: perhaps a LABEL");
        C.dueWords("\n \n,\n;\n\t\r\n.ORIG 9\n\n ,\nA\n\nB\nHALT\n\n", "F025");
        C.dueFault(1, ".ORIG 9\nA |B HALT");
        C.dueFault(1, ".ORIG 9\nA |B");
    }

    private static void placesOfLabels() {
        C.sentence("Terms 3", "(told here: the place of what comes in this LINE, or next)");
        SixteenDesk x = new SixteenDesk();
        Check.assemble(x, ".ORIG 9\nA\n\nB ;\nC HALT\nD .BLKW 3\nE .STRINGZ \"ab\"\nF\nG .END");
        C.due("labels", Check.labels(x), "9 9 9 10 13 16 16");
        Check.assemble(x, ".ORIG 0\nA");
        C.due("the LABEL of a text without WORDS", Check.labels(x), "0");
    }

    private static void firstLine() {
        C.sentence("Terms 3", "The first LINE with a TOKEN is .ORIG (without a LABEL)");
        C.dueWords("\n;\n , \n\t.ORIG 9\nHALT", "F025");
        C.dueFault(1, "|A .ORIG 9");
        C.dueFault(1, "\n|A\n.ORIG 9");
        for (String name : NAMES) {
            C.dueFault(1, "\n |" + name + "\n.ORIG 9");
        }
        String[] others = {".FILL 9", ".BLKW 1", ".STRINGZ \"\"", ".END", "9", "R1", "\"\"", "!"};
        for (String line : others) {
            C.dueFault(1, "|" + line + "\n.ORIG 9");
        }
    }

    private static void noOtherOrig() {
        C.sentence("Terms 3", "there is no other one;");
        C.dueFault(1, ".ORIG 9\n|.ORIG 9");
        C.dueFault(1, ".ORIG 9\nHALT\nA |.ORIG");
        C.dueWords(".ORIG 9\nHALT\n.END\n.ORIG 10", "F025");
    }

    private static void behindEnd() {
        C.sentence("Terms 3", "what stands behind .END's LINE is nothing.");
        C.dueWords(".ORIG 9\n.END\nHALT", "");
        C.dueWords("\n\n.ORIG 9\n\nHALT\n.END\nHALT", "F025");
        C.dueWords(".ORIG 9\nHALT\n.END ; x\n! \" \u0000 A A\n.END 5\nHALT", "F025");
        C.dueFault(1, ".ORIG 9\n.END |HALT\n");
        C.dueFault(1, ".ORIG 9\n.END |.END");
        C.dueFault(5, ".ORIG 9\n.FILL |A\n.END\nA");
        SixteenDesk x = new SixteenDesk();
        Check.assemble(x, ".ORIG 9\nA .END\nB");
        C.due("LABELS", x.told(4), 1);
        C.due("another text behind one with .END", Check.assemble(x, "\n.ORIG 9\nHALT"), 0);
        C.due("its words", Check.words(x), "F025");
    }

    private static void placesOfWords() {
        C.sentence("Terms 3", "PLACES go from .ORIG's NUMBER on: each takes one WORD, .BLKW as many as told (0s), .STRINGZ its bytes and a 0, a WORD each.");
        C.dueWords(".ORIG 9\nHALT\n.BLKW 1\nRET\n.BLKW 2\n.STRINGZ \"\"\nRTI\n.STRINGZ \"\\0a\"\nA .FILL A",
            "F025 0000 C1C0 0000 0000 0000 8000 0000 0061 0000 0013");
        C.dueWords(".ORIG 0\nA .FILL A", "0000");
        C.dueWords(".ORIG 65535\nA .FILL A", "FFFF");
        SixteenDesk x = new SixteenDesk();
        C.due(".BLKW 4096", Check.assemble(x, ".ORIG 0\n.BLKW 4096\nA"), 0);
        C.due("told(2)", x.told(2), 4096);
        C.due("label(0)", x.label(0), 4096);
        for (int i = 0; i < 4096; i += 315) {
            C.due("word(" + i + ")", x.word(i), 0);
        }
        C.due("a .BLKW over what another text had", Check.assemble(x, ".ORIG 0\n.STRINGZ \"abc\""), 0);
        C.due("assemble()", Check.assemble(x, ".ORIG 0\n.FILL 1"), 0);
        C.due("assemble()", Check.assemble(x, ".ORIG 0\n.BLKW 4"), 0);
        C.due("its words are 0", Check.words(x), "0000 0000 0000 0000");
    }

    private static void oneWordEach() {
        C.sentence("Terms 3", "BR alone is BRNZP; RET is JMP R7, GETC .. HALT are TRAP 32 .. 37;");
        dueOne("BR 0\nBRNZP 0", "0E00 0E00");
        dueOne("RET\nJMP R7", "C1C0 C1C0");
        dueOne("GETC\nOUT\nPUTS\nIN\nPUTSP\nHALT", "F020 F021 F022 F023 F024 F025");
        dueOne("TRAP 32\nTRAP 33\nTRAP 34\nTRAP 35\nTRAP 36\nTRAP 37", "F020 F021 F022 F023 F024 F025");
    }

    private static void bitsThatAreNotTold() {
        C.sentence("Terms 3", "bits that 2 doesn't tell are 0, but of NOT bits 5 to 0 are 1");
        dueOne("ADD R7,R7,R7\nAND R7,R7,R7", "1FC7 5FC7");
        dueOne("NOT R0,R0\nNOT R7,R7", "903F 9FFF");
        dueOne("JSRR R7\nJMP R0\nRTI\nTRAP 255", "41C0 C000 8000 F0FF");
    }

    private static void distances() {
        C.sentence("Terms 3", "A NUMBER that is WHERE is the distance itself; a LABEL's is its PLACE less that behind the WORD.");
        dueOne("BR 0\nBR -1\nBR 255\nBR -256", "0E00 0FFF 0EFF 0F00");
        dueOne("A BR A\nBR A\nBR B\nB BR B", "0FFF 0FFE 0E00 0FFF");
        dueOne("LD R1,A\nLDI R1,A\nLEA R1,A\nST R1,A\nSTI R1,A\nJSR A\nA", "2205 A204 E203 3202 B201 4800");
        dueOne("JSR 1023\nJSR -1024\nA JSR A", "4BFF 4C00 4FFF");
    }

    private static void fillOfALabel() {
        C.sentence("Terms 3", ".FILL LABEL: its PLACE.");
        C.dueWords(".ORIG 0\nA .FILL B\n.FILL A\nB", "0002 0000");
        C.dueWords(".ORIG x8000\nA .FILL A", "8000");
    }

    private static void lastPlaceOfAll() {
        C.sentence("Terms 3", "(A PLACE may be 65536, behind the last WORD of all; .FILL has the lowest 16 bits.)");
        C.dueWords(".ORIG 65535\n.FILL A\nA", "0000");
        C.dueWords(".ORIG 65534\nBR A\nJSR A\nA", "0E01 4800");
        C.dueWords(".ORIG 65280\nLD R0,A\n.STRINGZ \"a\"\nA", "2002 0061 0000");
        SixteenDesk x = new SixteenDesk();
        C.due("distance 255", Check.assemble(x, ".ORIG 65280\nBR A\n.BLKW 255\nA"), 0);
        C.due("word(0)", x.word(0), 0x0EFF);
        C.due("label(0)", x.label(0), 65536);
        C.dueFault(6, ".ORIG 65279\nBR |A\n.BLKW 256\nA");
    }
}
