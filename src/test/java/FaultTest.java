/** Promises 4 and 5: the FAULTS and their places. In a row's text a bar stands ahead of the place that is due. */
public final class FaultTest {
    public static void main(String[] args) {
        Check c = new Check("FaultTest");
        syntax(c);
        range(c);
        twiceAndRoom(c);
        secondPass(c);
        first(c);
        c.finish();
    }

    private static void syntax(Check c) {
        String[] starts = {
            "|", "\n\n|", " ; .ORIG 5\n,\t|", "|HALT", "\n |.END", "|L .ORIG 5", "|.FILL 5", "|!", "|\"a\"", "|.ORIGIN 5", "|#ORIG 5", "|-ORIG 5", "|ORIG 5",
            ".ORIG|", ".ORIG |\n5", ".ORIG ;5|\n", ".ORIG |L", ".ORIG |R1", ".ORIG |HALT", ".ORIG |\"5\"", ".ORIG 5 |5",
            ".ORIG 5\n|.ORIG 6", ".ORIG 5\nL |.ORIG 6", ".ORIG 5\n.END |5", ".ORIG 5\n.END |.END", ".ORIG 5 |HALT",
        };
        for (String marked : starts) {
            c.dueFault(1, marked);
        }
        String[] lines = {
            "|!", "L |!", "L |L", "|0A HALT", "|9Z", "|#FILL 5", "|-FILL 5", "|.HALT", "A |B HALT", "|R1", "|5", "|x1F", "L |5", "|.FOO", "|A.B", "|_A", "|A-", "|#", "|-", "|x-",
            "|ABCDEFGHIJKLMNOPQRSTU HALT", "|\"a\"", "|\"a", "|\u0000", "|\u00e9", "|'", "|:", "|\\", "HALT |HALT", "HALT |L",
            "RET |R7", "ADD|", "ADD R0|", "ADD R0,R1|", "ADD R0,R1 |\nR2", "ADD R0,R1;R2|\n", "ADD |#1", "ADD R0,|L", "ADD R0,R1,|L",
            "ADD R0,R1,R2,|R3", "ADD R0,R1,|1234567", "ADD R0,R1,|#0000001", "ADD R0,R1,|x000001", "ADD R0,R1,|#x5",
            "ADD R0,R1,|-#5", "ADD R0,R1,|--5", "ADD R0,R1,|5A", "ADD R0,R1,|x1_", "ADD R0,R1,|x1-", "ADD R0,R1,|x.", "NOT R0|", "NOT R0 |5",
            "NOT R0 R1 |R2", "BR|", "BR |R0", "BR |HALT", "BR |.END", "BRN 5 |5", "BRN|! 5", "LD |L", "LD R0|", "LD R0,|R1",
            "LD R0,|\"a\"", "LEA R0 |BRNZP", "LDR R0,R1|", "LDR R0,R1,|R2", "LDR R0,R1,|L", "STR R0 |5", "JMP|", "JMP |5", "JMP |R8",
            "JSRR |L", "JSR|", "JSR |R1", "TRAP|", "TRAP |L", "TRAP |R1", ".FILL|", ".FILL |R1", ".FILL |\"a\"", ".FILL |ADD",
            ".BLKW|", ".BLKW |L", ".STRINGZ|", ".STRINGZ |L", ".STRINGZ |5", ".STRINGZ |\"a", ".STRINGZ |\"a\nb\"",
            ".STRINGZ |\"\\x\"", ".STRINGZ |\"\\N\"", ".STRINGZ |\"\\", ".STRINGZ |\"\\\"", ".STRINGZ |\"\t\"", ".STRINGZ |\"\u001f\"", ".STRINGZ |\"\u007f\"",
            ".STRINGZ |\"\u00e9\"", ".STRINGZ \"a\" |\"b\"", ".STRINGZ \"a\"|\"b\"", ".STRINGZ \"a\"|b",
        };
        for (String marked : lines) {
            c.dueFault(1, ".ORIG 5\n" + marked);
        }
    }

    private static void range(Check c) {
        c.dueFault(2, ".ORIG |-1");
        c.dueFault(2, ".ORIG |65536");
        c.dueFault(2, ".ORIG |x-1 !");
        c.dueFault(2, ".ORIG |xFFFFF");
        String[][] rows = {
            {".FILL ", "-32769", "65536"}, {".BLKW ", "0", "4097"}, {".BLKW ", "-1", "999999"}, {"ADD R0,R0,", "-17", "16"},
            {"AND R0,R0,", "#-17", "x10"}, {"LDR R0,R0,", "-33", "32"}, {"STR R0,R0,", "-33", "32"}, {"TRAP ", "-1", "256"},
            {"JSR ", "-1025", "1024"}, {"BR ", "-257", "256"}, {"BRNP ", "-257", "256"}, {"LD R0 ", "-257", "256"},
            {"LDI R0 ", "-257", "256"}, {"LEA R0 ", "-257", "256"}, {"ST R0 ", "-257", "256"}, {"STI R0 ", "-257", "256"},
        };
        for (String[] row : rows) {
            c.dueFault(2, ".ORIG 5\n" + row[0] + "|" + row[1]);
            c.dueFault(2, ".ORIG 5\nL " + row[0] + "|" + row[2] + " !");
        }
    }

    private static void twiceAndRoom(Check c) {
        c.dueFault(3, ".ORIG 5\nA\n|A");
        c.dueFault(3, ".ORIG 5\nLoop HALT\n|lOOP !");
        String many = Check.manyLabels(200);
        c.dueFault(4, many + "|M HALT");
        c.dueFault(3, many + "|L7");
        c.dueFault(4, ".ORIG xFFFF\nHALT\n|HALT");
        c.dueFault(4, ".ORIG xFFFF\nHALT\nE |ADD !");
        c.dueFault(4, ".ORIG xFFFF\nHALT\n|.FILL R1");
        c.dueFault(4, ".ORIG xFFFF\n|.BLKW 2");
        c.dueFault(4, ".ORIG xFFFF\nE |.BLKW 2 !");
        c.dueFault(2, ".ORIG xFFFF\n.BLKW |5000");
        c.dueFault(1, ".ORIG xFFFF\n.BLKW |L");
        c.dueFault(4, ".ORIG xFFFF\n|.STRINGZ \"a\"");
        c.dueFault(1, ".ORIG xFFFF\n.STRINGZ |\"a");
        c.dueFault(1, ".ORIG xFFFF\n.STRINGZ |a");
        c.dueFault(4, ".ORIG 0\n.BLKW 4096\n|HALT");
        c.dueFault(4, ".ORIG 0\n.BLKW 4096\n|BR 9999");
        c.dueFault(4, ".ORIG 0\n.BLKW 4096\n|.FILL");
        c.dueFault(4, ".ORIG 0\n.BLKW 4000\n|.BLKW 97");
        c.dueFault(4, ".ORIG 0\n.BLKW 4095\n|.STRINGZ \"\\n\"");
        c.dueFault(1, ".ORIG 0\n.BLKW 4096\nE .END |5");
    }

    private static void secondPass(Check c) {
        c.dueFault(5, ".ORIG 0\nBR |ZZ");
        c.dueFault(5, ".ORIG 0\n.FILL |ZZ\nBR YY");
        c.dueFault(5, ".ORIG 0\nBR |ZZ\n.END\nZZ");
        c.dueFault(5, ".ORIG 0\nA JSR |AA");
        c.dueFault(5, ".ORIG 0\nABCDEFGHIJKLMNOPQRST BR |ABCDEFGHIJKLMNOPQRS");
        c.dueFault(6, ".ORIG 0\nBR |A\n.BLKW 256\nA");
        c.dueFault(6, ".ORIG 0\nA .BLKW 256\nLD R0 |A");
        c.dueFault(6, ".ORIG 0\nJSR |A\n.BLKW 1024\nA");
        c.dueFault(6, ".ORIG 0\nA .BLKW 1024\nJSR |A");
        c.dueFault(6, ".ORIG xFE00\nBR |A\n.BLKW 511\nA");
    }

    private static void first(Check c) {
        c.dueFault(5, ".ORIG 0\nBR |ZZ\nBR A\n.BLKW 300\nA");
        c.dueFault(6, ".ORIG 0\nBR |A\nBR ZZ\n.BLKW 300\nA");
        c.dueFault(1, ".ORIG 0\nBR ZZ\nBR A\n.BLKW 300\nA |A");
        c.dueFault(3, ".ORIG 0\nBR ZZ\nA\n|A");
        c.dueFault(2, ".ORIG 0\nA\n.FILL |99999\nA\n!");
        c.dueFault(1, ".ORIG 0\nA\nB |!\nA\n.FILL 99999");
    }
}
