/** The boundary cases that 'Terms' 3 names of the FAULTS. Each method holds the sentence that it quotes. */
public final class Terms3FaultEdgesTest {
    private static final Check C = new Check("Terms3FaultEdgesTest");
    private static final String ORIG = ".ORIG x3000\n";

    /** What each LINE takes: r a REGISTER, n a NUMBER, s one of both, w a NUMBER or LABEL, t a TEXT. */
    private static final String[][] FORMS = {
        {".FILL", "w"}, {".BLKW", "n"}, {".STRINGZ", "t"}, {".END", ""}, {"ADD", "rrs"}, {"AND", "rrs"}, {"NOT", "rr"}, {"BR", "w"},
        {"BRN", "w"}, {"BRZ", "w"}, {"BRP", "w"}, {"BRNZ", "w"}, {"BRNP", "w"}, {"BRZP", "w"}, {"BRNZP", "w"}, {"LD", "rw"},
        {"LDI", "rw"}, {"LEA", "rw"}, {"ST", "rw"}, {"STI", "rw"}, {"LDR", "rrn"}, {"STR", "rrn"}, {"JMP", "r"}, {"JSRR", "r"},
        {"JSR", "w"}, {"TRAP", "n"}, {"RET", ""}, {"RTI", ""}, {"GETC", ""}, {"OUT", ""}, {"PUTS", ""}, {"IN", ""}, {"PUTSP", ""},
        {"HALT", ""},
    };

    public static void main(String[] args) {
        whatALineTakes();
        lineEndsTooSoon();
        lineGoesOnTooLong();
        byteInNone();
        textThatIsNone();
        wordThatIsNone();
        rangeOfOrig();
        rangeOfFill();
        rangeOfBlkw();
        rangeOfAddAndAnd();
        rangeOfLdrAndStr();
        rangeOfTrap();
        rangeOfJsr();
        rangeOfTheOthers();
        twice();
        roomForLabels();
        roomBelow65536();
        roomFor4096();
        roomOfBlocksAndTexts();
        roomOfNames();
        unknown();
        far();
        farOfJsr();
        firstOfFour();
        firstOfTwo();
        fourAheadOfTwo();
        leastOfOnePlace();
        textsEnd();
        withoutEndOrOrig();
        C.finish();
    }

    private static String operand(char kind) {
        switch (kind) {
            case 'r': return "R1";
            case 't': return "\"a\"";
            default: return "1";
        }
    }

    /** The first operands of a form, each with a blank ahead of it. */
    private static String operands(String kinds, int n) {
        StringBuilder all = new StringBuilder();
        for (int i = 0; i < n; i++) {
            all.append(' ').append(operand(kinds.charAt(i)));
        }
        return all.toString();
    }

    private static boolean takes(char kind, char token) {
        switch (kind) {
            case 's': return token == 'r' || token == 'n';
            case 'w': return token == 'n' || token == 'l';
            default: return token == kind;
        }
    }

    // Each operand of each form, by a TOKEN of each kind: a REGISTER, a NUMBER, a LABEL, a TEXT, a NAME, a WORD that is none.
    private static void whatALineTakes() {
        C.sentence("Terms 3", "then perhaps: .ORIG NUMBER | .FILL VALUE | .BLKW NUMBER | .STRINGZ TEXT | .END | ADD, AND R R (R or NUMBER) | NOT R R"
            + " | BR.. WHERE | LD, LDI, LEA, ST, STI R WHERE | LDR, STR R R NUMBER | JMP, JSRR R | JSR WHERE | TRAP NUMBER | RET, RTI, GETC, OUT,"
            + " PUTS, IN, PUTSP, HALT. R a REGISTER; VALUE, WHERE: a NUMBER or a LABEL.");
        String[][] tokens = {{"r", "R7"}, {"n", "1"}, {"l", "Q"}, {"t", "\"b\""}, {"x", "HALT"}, {"x", ".END"}, {"x", "A.B"}, {"x", "1A"}};
        for (String[] form : FORMS) {
            for (int i = 0; i < form[1].length(); i++) {
                for (String[] token : tokens) {
                    String head = ORIG + "Q " + form[0] + operands(form[1], i) + " ";
                    String rest = operands(form[1], form[1].length()).substring(operands(form[1], i + 1).length());
                    if (takes(form[1].charAt(i), token[0].charAt(0))) {
                        SixteenDesk x = new SixteenDesk();
                        C.due("assemble() of " + head + token[1] + rest, Check.assemble(x, head + token[1] + rest), 0);
                    } else {
                        C.dueFault(1, head + "|" + token[1] + rest);
                    }
                }
            }
        }
    }

    private static void lineEndsTooSoon() {
        C.sentence("Terms 3", "of a LINE that ends too soon the place of its byte 10, or the text's length) with which no text goes on;");
        for (String[] form : FORMS) {
            for (int n = 0; n < form[1].length(); n++) {
                String line = ORIG + form[0] + operands(form[1], n);
                C.dueFault(1, line + "|");
                C.dueFault(1, line + "|\nHALT");
                C.dueFault(1, line + " ,\t|\n R1");
                C.dueFault(1, line + " ; R1|\nR1");
                C.dueFault(1, line + ";|");
            }
        }
        C.dueFault(1, ".ORIG|");
        C.dueFault(1, "\n.ORIG |\n9");
        C.dueFault(1, ".ORIG ;9|\n9");
    }

    private static void lineGoesOnTooLong() {
        C.sentence("Terms 3", "with which no text goes on;");
        String[] tokens = {"R1", "1", "Q", "\"b\"", "HALT", ".END", "A.B", "!"};
        for (String[] form : FORMS) {
            for (String token : tokens) {
                C.dueFault(1, ORIG + form[0] + operands(form[1], form[1].length()) + " |" + token);
            }
        }
        for (String token : tokens) {
            C.dueFault(1, ".ORIG 9 |" + token);
        }
        String[] starts = {"R1", "1", "\"b\"", "A.B", "!", ".ORIG 9", ".FOO", "x1"};
        for (String token : starts) {
            C.dueFault(1, ORIG + "|" + token);
            C.dueFault(1, ORIG + "Q |" + token);
        }
        C.dueFault(1, ORIG + "Q |Q");
    }

    private static void byteInNone() {
        C.sentence("Terms 3", "(or byte that is in none, at it;");
        int[] bytes = {0, 1, 8, 11, 12, 14, 31, '!', '/', ':', '@', '[', '\\', ']', '^', '`', '{', '~', 127, 128, 160, 255};
        for (int b : bytes) {
            C.dueFault(1, "|" + (char) b + ".ORIG 9");
            C.dueFault(1, ORIG + "|" + (char) b);
            C.dueFault(1, ORIG + "HALT|" + (char) b);
            C.dueFault(1, ORIG + "ADD R1|" + (char) b + "R2 R3");
        }
    }

    private static void textThatIsNone() {
        C.sentence("Terms 3", "a TEXT that is none at its \";");
        String[] none = {"\"", "\"a", "\"a\n\"", "\"\t\"", "\"\\q\"", "\"ab\\", "\"ab\\\"", "\"\u007f\"", "\"\u0000\"", "\"a;b"};
        for (String text : none) {
            C.dueFault(1, ORIG + ".STRINGZ |" + text);
            C.dueFault(1, ORIG + "|" + text);
            C.dueFault(1, ORIG + ".STRINGZ \"a\"|" + text);
        }
    }

    private static void wordThatIsNone() {
        C.sentence("Terms 3", "a WORD that is none of these where it stands;");
        String[] none = {"A.B", "#A", "1234567", "_", "--1", ".HALT", "ABCDEFGHIJKLMNOPQRSTU", "X-", "."};
        for (String word : none) {
            C.dueFault(1, "|" + word);
            C.dueFault(1, ".ORIG |" + word);
            C.dueFault(1, ORIG + "|" + word + " HALT");
            C.dueFault(1, ORIG + "BR |" + word);
            C.dueFault(1, ORIG + "HALT |" + word);
        }
        String[] marks = {"#", "-", "_", ".."};
        for (String mark : marks) {
            C.dueFault(1, "|" + mark + "ORIG 9");
            C.dueFault(1, ORIG + "|" + mark + "FILL 9");
            C.dueFault(1, ORIG + "|" + mark + "END");
            C.dueFault(1, ORIG + "|" + mark + "HALT");
        }
    }

    /** The least and the most NUMBER that goes behind a head, with their words, and the nearest that do not. */
    private static void dueRange(String head, int least, int most, String leastWord, String mostWord) {
        C.dueWords(ORIG + head + least, leastWord);
        C.dueWords(ORIG + head + "#" + least, leastWord);
        C.dueWords(ORIG + head + most, mostWord);
        C.dueWords(ORIG + head + hexadecimals(most), mostWord);
        dueOutside(ORIG + head, least, most);
    }

    private static void dueOutside(String head, int least, int most) {
        C.dueFault(2, head + "|" + (least - 1));
        C.dueFault(2, head + "|#" + (least - 1));
        C.dueFault(2, head + "|" + hexadecimals(least - 1) + " !");
        C.dueFault(2, head + "|" + (most + 1));
        C.dueFault(2, head + "|" + hexadecimals(most + 1));
        C.dueFault(2, head + "|-999999");
        C.dueFault(2, head + "|999999");
        C.dueFault(2, head + "|x-FFFFF");
        C.dueFault(2, head + "|xFFFFF");
    }

    private static String hexadecimals(int n) {
        return n < 0 ? "x-" + Integer.toHexString(-n) : "x" + Integer.toHexString(n);
    }

    private static void rangeOfOrig() {
        C.sentence("Terms 3", "2 RANGE: a NUMBER's: of .ORIG 0 to 65535");
        int[] right = {0, 65535};
        for (int origin : right) {
            SixteenDesk x = new SixteenDesk();
            C.due("assemble()", Check.assemble(x, ".ORIG " + origin + "\nHALT"), 0);
            C.due("told(3)", x.told(3), origin);
        }
        dueOutside(".ORIG ", 0, 65535);
    }

    private static void rangeOfFill() {
        C.sentence("Terms 3", "of .FILL -32768 to 65535");
        dueRange(".FILL ", -32768, 65535, "8000", "FFFF");
    }

    private static void rangeOfBlkw() {
        C.sentence("Terms 3", "of .BLKW 1 to 4096");
        C.dueWords(ORIG + ".BLKW 1", "0000");
        SixteenDesk x = new SixteenDesk();
        C.due("assemble()", Check.assemble(x, ORIG + ".BLKW 4096"), 0);
        C.due("told(2)", x.told(2), 4096);
        dueOutside(ORIG + ".BLKW ", 1, 4096);
    }

    private static void rangeOfAddAndAnd() {
        C.sentence("Terms 3", "of ADD, AND -16 to 15");
        dueRange("ADD R1,R2,", -16, 15, "12B0", "12AF");
        dueRange("AND R1,R2,", -16, 15, "52B0", "52AF");
    }

    private static void rangeOfLdrAndStr() {
        C.sentence("Terms 3", "of LDR, STR -32 to 31");
        dueRange("LDR R1,R2,", -32, 31, "62A0", "629F");
        dueRange("STR R1,R2,", -32, 31, "72A0", "729F");
    }

    private static void rangeOfTrap() {
        C.sentence("Terms 3", "of TRAP 0 to 255");
        dueRange("TRAP ", 0, 255, "F000", "F0FF");
    }

    private static void rangeOfJsr() {
        C.sentence("Terms 3", "of JSR -1024 to 1023");
        dueRange("JSR ", -1024, 1023, "4C00", "4BFF");
    }

    private static void rangeOfTheOthers() {
        C.sentence("Terms 3", "of the others -256 to 255;");
        String[][] rows = {
            {"BR ", "0F00", "0EFF"}, {"BRN ", "0900", "08FF"}, {"BRZ ", "0500", "04FF"}, {"BRP ", "0300", "02FF"}, {"BRNZ ", "0D00", "0CFF"},
            {"BRNP ", "0B00", "0AFF"}, {"BRZP ", "0700", "06FF"}, {"BRNZP ", "0F00", "0EFF"}, {"LD R1 ", "2300", "22FF"},
            {"LDI R1 ", "A300", "A2FF"}, {"LEA R1 ", "E300", "E2FF"}, {"ST R1 ", "3300", "32FF"}, {"STI R1 ", "B300", "B2FF"},
        };
        for (String[] row : rows) {
            dueRange(row[0], -256, 255, row[1], row[2]);
        }
    }

    private static void twice() {
        C.sentence("Terms 3", "3 TWICE: a LABEL told already;");
        C.dueFault(3, ORIG + "A\n|A");
        C.dueFault(3, ORIG + "A HALT\nB\n|a HALT");
        C.dueFault(3, ORIG + "ABCDEFGHIJKLMNOPQRST\n|ABCDEFGHIJKLMNOPQRST !");
        C.dueFault(3, ORIG + "A\n|A .END");
        C.dueWords(ORIG + ".FILL A\nA .FILL A\n.FILL A", "3001 3001 3001");
        C.dueWords(ORIG + "ABCDEFGHIJKLMNOPQRST\nABCDEFGHIJKLMNOPQRSU\nABCDEFGHIJ\nABCDEFGHIJK", "");
        C.dueWords(ORIG + "A\n.END\nA", "");
        SixteenDesk x = new SixteenDesk();
        C.due("a LABEL", Check.assemble(x, ORIG + "A HALT"), 0);
        C.due("the same one in another text", Check.assemble(x, ORIG + "A HALT"), 0);
        C.due("a FAULT behind it", Check.assemble(x, ORIG + "B HALT !"), 1);
        C.due("and again in a text behind that", Check.assemble(x, ORIG + "B HALT"), 0);
    }

    private static void roomForLabels() {
        C.sentence("Terms 3", "4 ROOM: a 201st LABEL told;");
        SixteenDesk x = new SixteenDesk();
        C.due("200 LABELS", Check.assemble(x, Check.manyLabels(199) + "M .FILL L0\n.FILL M"), 0);
        C.due("told(4)", x.told(4), 200);
        C.due("label(199)", x.label(199), 0x3000);
        C.dueFault(4, Check.manyLabels(200) + "|M");
        C.dueFault(4, Check.manyLabels(200) + "|M !");
        C.dueFault(5, Check.manyLabels(200) + ".FILL |M");
    }

    private static void roomBelow65536() {
        C.sentence("Terms 3", "what would take the WORD 65536");
        C.dueWords(".ORIG 65535\nHALT\nA\n.END", "F025");
        C.dueFault(4, ".ORIG 65535\nHALT\n|HALT");
        C.dueFault(4, ".ORIG 65535\nHALT\nA |HALT");
        C.dueWords(".ORIG 65534\n.BLKW 2", "0000 0000");
        C.dueFault(4, ".ORIG 65534\n|.BLKW 3");
        C.dueFault(4, ".ORIG 65535\nHALT\n|.BLKW 1");
        C.dueWords(".ORIG 65534\n.STRINGZ \"a\"", "0061 0000");
        C.dueFault(4, ".ORIG 65534\n|.STRINGZ \"ab\"");
        C.dueFault(4, ".ORIG 65535\nHALT\n|.STRINGZ \"\"");
    }

    private static void roomFor4096() {
        C.sentence("Terms 3", "or a 4097th WORD");
        SixteenDesk x = new SixteenDesk();
        C.due("4096 WORDS", Check.assemble(x, ".ORIG 0\n.BLKW 4095\nHALT\nA\n.END"), 0);
        C.due("told(2)", x.told(2), 4096);
        C.due("word(4095)", x.word(4095), 0xF025);
        C.due("4096 WORDS with a TEXT", Check.assemble(x, ".ORIG 0\n.BLKW 4094\n.STRINGZ \"a\""), 0);
        C.due("told(2)", x.told(2), 4096);
        C.due("4096 WORDS up to the last of all", Check.assemble(x, ".ORIG 61440\n.BLKW 4096"), 0);
        C.dueFault(4, ".ORIG 0\n.BLKW 4096\n|HALT");
        C.dueFault(4, ".ORIG 0\n.BLKW 4096\nA |HALT");
        C.dueFault(4, ".ORIG 0\n.BLKW 4095\n|.BLKW 2");
        C.dueFault(4, ".ORIG 0\nHALT\n|.BLKW 4096");
        C.dueFault(4, ".ORIG 0\n.BLKW 4095\n|.STRINGZ \"a\"");
        C.dueFault(4, ".ORIG 61441\n|.BLKW 4096");
    }

    private static void roomOfBlocksAndTexts() {
        C.sentence("Terms 3", "(at .BLKW, .STRINGZ, if what they take is right;");
        String[] heads = {".ORIG 65535\nHALT\n", ".ORIG 0\n.BLKW 4096\n"};
        for (String head : heads) {
            C.dueFault(4, head + "|.BLKW 1 !");
            C.dueFault(4, head + "A |.BLKW 4096 5");
            C.dueFault(2, head + ".BLKW |0");
            C.dueFault(2, head + ".BLKW |4097");
            C.dueFault(1, head + ".BLKW |A");
            C.dueFault(1, head + ".BLKW|");
            C.dueFault(4, head + "|.STRINGZ \"\" !");
            C.dueFault(4, head + "A |.STRINGZ \"abc\"\"");
            C.dueFault(1, head + ".STRINGZ |\"");
            C.dueFault(1, head + ".STRINGZ |\"\\x\"");
            C.dueFault(1, head + ".STRINGZ |A");
            C.dueFault(1, head + ".STRINGZ|\n");
        }
    }

    private static void roomOfNames() {
        C.sentence("Terms 3", "at the NAME, .FILL, whatever is behind)");
        String[] heads = {".ORIG 65535\nHALT\n", ".ORIG 0\n.BLKW 4096\n"};
        String[] rests = {"", " R1", " 99999", " !", "\"", " \"a", " R1 R2 R3 R4", " A.B", " .END"};
        for (String head : heads) {
            for (String[] form : FORMS) {
                boolean one = !form[0].startsWith(".") || form[0].equals(".FILL");
                for (int i = 0; one && i < rests.length; i++) {
                    C.dueFault(4, head + "|" + form[0] + rests[i]);
                    C.dueFault(4, head + "A |" + form[0] + rests[i] + "\nHALT");
                }
            }
            C.dueFault(1, head + ".END |!");
            C.dueFault(1, head + "A |A.B");
        }
    }

    private static void unknown() {
        C.sentence("Terms 3", "5 UNKNOWN: a LABEL told nowhere;");
        for (String[] form : FORMS) {
            if (form[1].endsWith("w")) {
                String head = ORIG + "A " + form[0] + operands(form[1], form[1].length() - 1) + " ";
                C.dueFault(5, head + "|B");
                C.dueFault(5, head + "|AA\n.END\nAA");
                C.due("a LABEL that is told", Check.assemble(new SixteenDesk(), head + "B\nB"), 0);
            }
        }
        C.dueFault(5, ORIG + "ABCDEFGHIJKLMNOPQRST BR |ABCDEFGHIJKLMNOPQRS");
        C.dueFault(5, ORIG + "ABCDEFGHIJK BR |ABCDEFGHIJ");
        SixteenDesk x = new SixteenDesk();
        Check.assemble(x, ORIG + "A HALT");
        C.due("a LABEL of an earlier text", Check.assemble(x, ORIG + "BR A"), 5);
        C.due("told(1)", x.told(1), 15);
    }

    private static void far() {
        C.sentence("Terms 3", "6 FAR: one whose distance does not go into its field.");
        String[] heads = {"BR ", "BRN ", "BRZ ", "BRP ", "BRNZ ", "BRNP ", "BRZP ", "BRNZP ", "LD R1 ", "LDI R1 ", "LEA R1 ", "ST R1 ", "STI R1 "};
        for (String head : heads) {
            dueFar(head, 255, 256, 0x1FF);
        }
        SixteenDesk x = new SixteenDesk();
        C.due(".FILL has no distance", Check.assemble(x, ORIG + ".FILL A\n.BLKW 4000\nA"), 0);
    }

    private static void farOfJsr() {
        C.sentence("Terms 3", "6 FAR: one whose distance does not go into its field.");
        dueFar("JSR ", 1023, 1024, 0x7FF);
    }

    /** A LABEL at the largest distance and one behind it, one at the least and one ahead of it. */
    private static void dueFar(String head, int most, int least, int mask) {
        SixteenDesk x = new SixteenDesk();
        C.due(head + most, Check.assemble(x, ORIG + head + "A\n.BLKW " + most + "\nA"), 0);
        C.due("its field", x.word(0) & mask, most);
        C.due(head + -least, Check.assemble(x, ORIG + "A .BLKW " + (least - 1) + "\n" + head + "A"), 0);
        C.due("its field", x.word(least - 1) & mask, least);
        C.dueFault(6, ORIG + head + "|A\n.BLKW " + (most + 1) + "\nA");
        C.dueFault(6, ORIG + "A .BLKW " + least + "\n" + head + "|A");
    }

    private static void firstOfFour() {
        C.sentence("Terms 3", "FAULTS: the first one along the text of 1 SYNTAX");
        String[] marked = {"|!", "TRAP |256", "|A", "|.BLKW 4096"};
        for (int i = 0; i < marked.length; i++) {
            for (String other : marked) {
                C.dueFault(i + 1, ".ORIG 0\nA HALT\n" + marked[i] + "\n" + other.replace("|", ""));
            }
        }
        C.dueFault(2, ORIG + "A TRAP |256 !");
        C.dueFault(3, ORIG + "A\n|A TRAP 256 !");
        C.dueFault(1, ORIG + "A\nB |! A\nTRAP 256\nA");
    }

    private static void firstOfTwo() {
        C.sentence("Terms 3", "If there is none, the first along the text of 5 UNKNOWN");
        C.dueFault(5, ORIG + "A .BLKW 300\nBR |B\nBR A");
        C.dueFault(6, ORIG + "A .BLKW 300\nBR |A\nBR B");
        C.dueFault(5, ORIG + "BR |B\nBR C");
        C.dueFault(6, ORIG + "BR |A\n.BLKW 300\nA BR B");
    }

    private static void fourAheadOfTwo() {
        C.sentence("Terms 3", "If there is none, the first along the text of 5 UNKNOWN");
        String[] marked = {"|!", "TRAP |256", "|A", "|.BLKW 4096"};
        for (int i = 0; i < marked.length; i++) {
            C.dueFault(i + 1, ".ORIG 0\nA BR B\n" + marked[i]);
            C.dueFault(i + 1, ".ORIG 0\nA .BLKW 300\nBR A\n" + marked[i]);
        }
        C.dueFault(1, ".ORIG 0\nBR B |!");
    }

    private static void leastOfOnePlace() {
        C.sentence("Terms 3", "(Of one place the least;");
        C.dueFault(3, Check.manyLabels(200) + "|L0");
        C.dueFault(3, Check.manyLabels(200) + "|L199 !");
    }

    private static void textsEnd() {
        C.sentence("Terms 3", "at the text's end: its length.");
        C.dueFault(1, "|");
        C.dueFault(1, "\n|");
        C.dueFault(1, " ;.ORIG 9|");
        C.dueFault(1, ".ORIG|");
        C.dueFault(1, ".ORIG 9\nADD R1,R2, |");
    }

    private static void withoutEndOrOrig() {
        C.sentence("Terms 3", "A text without .END is right, one without .ORIG is not.)");
        C.dueWords(".ORIG 9\nHALT", "F025");
        C.dueWords(".ORIG 9\nHALT\n.END", "F025");
        C.dueWords(".ORIG 9", "");
        C.dueFault(1, "|");
        C.dueFault(1, "\n\n ,\t\r;\n|");
        C.dueFault(1, "|HALT\n.END");
        C.dueFault(1, "|.END");
    }
}
