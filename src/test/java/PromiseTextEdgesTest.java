import java.util.NoSuchElementException;

/** The boundary cases of promises 2 to 7 and 16 to 18 (the TAPE, what was assembled, LINES). Each method holds the sentence that it quotes. */
public final class PromiseTextEdgesTest {
    private static final Check C = new Check("PromiseTextEdgesTest");
    private static final int[] FAR_OUT = {-1, Integer.MIN_VALUE, Integer.MAX_VALUE};

    public static void main(String[] args) {
        feedTakesTwenty();
        feedRefuses();
        endCuts();
        endRefuses();
        assembleEmptiesTheTape();
        assembleOfNothing();
        assembleKeepsWhatWas();
        toldOfTheLatest();
        toldOfWhatWasAssembled();
        toldOfOthers();
        wordOfWhatWasAssembled();
        wordThatIsNone();
        labelInOrder();
        labelThatIsNone();
        writeOfAPlace();
        writeOfADevice();
        writtenOfTheLatest();
        writtenThatIsNone();
        againComesBehind();
        againRefuses();
        C.finish();
    }

    private static void fill(SixteenDesk x, int length) {
        for (int n = 0; n < length; n += 20) {
            x.feed(0x20202020, 0x20202020, 0x20202020, 0x20202020, 0x20202020);
        }
        x.end(length);
    }

    // A byte 255 at each of the twenty places: the FAULT tells where it came to lie.
    private static void feedTakesTwenty() {
        C.sentence("Promise 2", "Twenty bytes come behind the TAPE, of each number the highest first: how many it has;");
        for (int at = 0; at < 20; at++) {
            int[] five = {0x20202020, 0x20202020, 0x20202020, 0x20202020, 0x20202020};
            five[at / 4] |= 255 << 24 - at % 4 * 8;
            SixteenDesk x = new SixteenDesk();
            Check.feed(x, 0, ".ORIG 9\n");
            C.due("feed()", x.feed(five[0], five[1], five[2], five[3], five[4]), 28);
            C.due("assemble()", x.assemble(), 1);
            C.due("the byte " + at, x.told(1), 8 + at);
        }
        SixteenDesk y = new SixteenDesk();
        y.feed(0x2E4F5249, 0x4720390A, 0x2E535452, 0x494E475A, 0x20224142);
        C.due("feed()", y.feed(0x43444546, 0x4748494A, 0x4B4C4D4E, 0x4F505152, 0x53545522), 40);
        y.assemble();
        StringBuilder text = new StringBuilder();
        for (int i = 0; i < 21; i++) {
            text.append((char) y.word(i));
        }
        C.due("the bytes in their order", text.toString(), "ABCDEFGHIJKLMNOPQRSTU");
    }

    private static void feedRefuses() {
        C.sentence("Promise 2", "NONE, and none come, if it would have more than 4,000.");
        int[] lengths = {3980, 3981, 3990, 3999, 4000};
        for (int length : lengths) {
            SixteenDesk x = new SixteenDesk();
            fill(x, length);
            boolean goes = length == 3980;
            C.due("feed() behind " + length, x.feed(-1, -1, -1, -1, -1), goes ? 4000 : SixteenDesk.NONE);
            C.due("feed() once more", x.feed(-1, -1, -1, -1, -1), SixteenDesk.NONE);
            int has = goes ? 4000 : length;
            C.due("end() of one more", x.end(has + 1), false);
            C.due("end() of all", x.end(has), true);
            C.due("assemble()", x.assemble(), 1);
            C.due("its first byte 255, or its end", x.told(1), length);
        }
    }

    private static void endCuts() {
        C.sentence("Promise 3", "The TAPE has its first n bytes alone: true;");
        SixteenDesk x = new SixteenDesk();
        Check.feed(x, 0, ".ORIG 9\nHALT\nHALT!");
        C.due("end() of all", x.end(18), true);
        C.due("end() of one less", x.end(17), true);
        C.due("what was cut is gone", x.end(18), false);
        C.due("assemble()", x.assemble(), 0);
        C.due("words", Check.words(x), "F025 F025");
        Check.feed(x, 0, ".ORIG 9\nHALT!");
        C.due("end(8)", x.end(8), true);
        C.due("feed() behind it", x.feed(0x5245540A, 0x5245540A, 0x5245540A, 0x5245540A, 0x5245540A), 28);
        C.due("assemble()", x.assemble(), 0);
        C.due("words", Check.words(x), "C1C0 C1C0 C1C0 C1C0 C1C0");
        Check.feed(x, 0, ".ORIG 9");
        C.due("end(0)", x.end(0), true);
        C.due("end(0) of an empty TAPE", x.end(0), true);
        C.due("feed() on an empty TAPE", x.feed(0, 0, 0, 0, 0), 20);
        SixteenDesk full = new SixteenDesk();
        fill(full, 4000);
        C.due("end(4000)", full.end(4000), true);
        C.due("end(3999)", full.end(3999), true);
    }

    private static void endRefuses() {
        C.sentence("Promise 3", "false, and nothing happens, if it has fewer, or n is below 0.");
        SixteenDesk x = new SixteenDesk();
        C.due("end(1) of an empty TAPE", x.end(1), false);
        Check.feed(x, 0, ".ORIG 9\nHALT\n");
        int[] refused = {14, 4000, 4001, Integer.MAX_VALUE, -1, Integer.MIN_VALUE};
        for (int n : refused) {
            C.due("end(" + n + ")", x.end(n), false);
        }
        C.due("the TAPE has its 13 bytes", x.end(13), true);
        C.due("assemble()", x.assemble(), 0);
        C.due("words", Check.words(x), "F025");
        SixteenDesk full = new SixteenDesk();
        fill(full, 4000);
        C.due("end(4001)", full.end(4001), false);
        C.due("end(4000)", full.end(4000), true);
    }

    private static void assembleEmptiesTheTape() {
        C.sentence("Promise 4", "The TAPE, which is empty then, is assembled: 0;");
        SixteenDesk x = new SixteenDesk();
        C.due("assemble()", Check.assemble(x, ".ORIG 9\nHALT"), 0);
        C.due("end(1)", x.end(1), false);
        C.due("feed()", x.feed(0, 0, 0, 0, 0), 20);
        C.due("assemble() of a FAULT", x.assemble(), 1);
        C.due("end(1)", x.end(1), false);
        fill(x, 4000);
        C.due("assemble() of a full TAPE", x.assemble(), 1);
        C.due("feed()", x.feed(0, 0, 0, 0, 0), 20);
    }

    private static void assembleOfNothing() {
        C.sentence("Promise 4", "or the FAULT's number");
        SixteenDesk x = new SixteenDesk();
        C.due("assemble() of an empty TAPE", x.assemble(), 1);
        C.due("told(1)", x.told(1), 0);
        C.due("load()", x.load(), false);
        Check.assemble(x, ".ORIG 9\nHALT");
        C.due("assemble() of the TAPE that is empty then", x.assemble(), 1);
        C.due("told(1)", x.told(1), 0);
    }

    private static void assembleKeepsWhatWas() {
        C.sentence("Promise 4", "(what was assembled before stays)");
        String[] faults = {
            ".ORIG 7\nB HALT\nC RET\n!", ".ORIG 7\nB HALT\nC RET\nTRAP 256", ".ORIG 7\nB HALT\nC RET\nB", ".ORIG 7\nB HALT\nC RET\n.BLKW 4096",
            ".ORIG 7\nB HALT\nC RET\nBR D", ".ORIG 7\nB HALT\nC .BLKW 300\nBR B",
        };
        for (int i = 0; i < faults.length; i++) {
            SixteenDesk x = new SixteenDesk();
            Check.assemble(x, ".ORIG 5\nA HALT\n.FILL A");
            C.due("assemble() of " + faults[i], Check.assemble(x, faults[i]), i + 1);
            C.due("again", Check.assemble(x, faults[i]), i + 1);
            C.due("words", Check.words(x), "F025 0005");
            C.due("labels", Check.labels(x), "5");
            C.due("told(3)", x.told(3), 5);
            C.due("load()", x.load(), true);
            C.due("PC", x.register(8), 5);
            C.due("its first WORD", x.peek(5), 0xF025);
            C.due("what lies where the FAULT's text was to come", x.peek(7), 0);
        }
    }

    private static void toldOfTheLatest() {
        C.sentence("Promise 5", "Of the latest assemble(): 0 its FAULT (0 without, and ahead of any), 1 the FAULT's place (NONE without).");
        SixteenDesk x = new SixteenDesk();
        C.due("told(0) ahead of any", x.told(0), 0);
        C.due("told(1) ahead of any", x.told(1), SixteenDesk.NONE);
        Check.assemble(x, "!");
        C.due("told(0) of a FAULT at 0", x.told(0), 1);
        C.due("told(1)", x.told(1), 0);
        Check.assemble(x, ".ORIG 9");
        C.due("told(0) without", x.told(0), 0);
        C.due("told(1) without", x.told(1), SixteenDesk.NONE);
        Check.assemble(x, ".ORIG 65536");
        C.due("told(0)", x.told(0), 2);
        C.due("told(1)", x.told(1), 6);
        fill(x, 4000);
        x.assemble();
        C.due("told(1) at the end of a full TAPE", x.told(1), 4000);
    }

    private static void toldOfWhatWasAssembled() {
        C.sentence("Promise 5", "Of what was assembled: 2 how many WORDS, 3 .ORIG's NUMBER, 4 how many LABELS (0 ahead of any).");
        SixteenDesk x = new SixteenDesk();
        for (int what = 2; what <= 4; what++) {
            C.due("told(" + what + ") ahead of any", x.told(what), 0);
        }
        Check.assemble(x, ".ORIG 7\nA HALT !");
        for (int what = 2; what <= 4; what++) {
            C.due("told(" + what + ") behind a FAULT alone", x.told(what), 0);
        }
        Check.assemble(x, ".ORIG 65535\nA\nB HALT\nC");
        C.due("told(2)", x.told(2), 1);
        C.due("told(3)", x.told(3), 65535);
        C.due("told(4)", x.told(4), 3);
        Check.assemble(x, ".ORIG 0");
        C.due("told(2) of no WORDS", x.told(2), 0);
        C.due("told(3)", x.told(3), 0);
        C.due("told(4) of no LABELS", x.told(4), 0);
        Check.assemble(x, ".ORIG 1\n.BLKW 4096");
        C.due("told(2) of all there may be", x.told(2), 4096);
    }

    private static void toldOfOthers() {
        C.sentence("Promise 5", "NoSuchElementException: another what.");
        SixteenDesk x = new SixteenDesk();
        C.dueThrow("told(5)", NoSuchElementException.class, () -> x.told(5));
        for (int what : FAR_OUT) {
            C.dueThrow("told(" + what + ")", NoSuchElementException.class, () -> x.told(what));
        }
    }

    private static void wordOfWhatWasAssembled() {
        C.sentence("Promise 6", "WORD i of what was assembled.");
        SixteenDesk x = new SixteenDesk();
        Check.assemble(x, ".ORIG 65533\n.FILL 65535\n.FILL 0\n.FILL -32768");
        C.due("words", Check.words(x), "FFFF 0000 8000");
        x.load();
        x.poke(65533, 5);
        C.due("a WORD of the MEMORY is another", x.word(0), 65535);
        Check.assemble(x, ".ORIG 0\n.BLKW 4095\n.FILL 7");
        C.due("word(0)", x.word(0), 0);
        C.due("word(4095)", x.word(4095), 7);
    }

    private static void dueNoWord(SixteenDesk x, int i) {
        C.dueThrow("word(" + i + ")", NoSuchElementException.class, () -> x.word(i));
    }

    private static void wordThatIsNone() {
        C.sentence("Promise 6", "NoSuchElementException: there is none such.");
        SixteenDesk x = new SixteenDesk();
        dueNoWord(x, 0);
        Check.assemble(x, ".ORIG 9\nHALT !");
        dueNoWord(x, 0);
        Check.assemble(x, ".ORIG 0\n.BLKW 4096");
        dueNoWord(x, 4096);
        Check.assemble(x, ".ORIG 9\nHALT\nHALT");
        dueNoWord(x, 2);
        for (int i : FAR_OUT) {
            dueNoWord(x, i);
        }
        Check.assemble(x, ".ORIG 9\nHALT\nHALT\nHALT !");
        dueNoWord(x, 2);
        Check.assemble(x, ".ORIG 9");
        dueNoWord(x, 0);
    }

    private static void labelInOrder() {
        C.sentence("Promise 7", "The PLACE of LABEL i, as they were told.");
        SixteenDesk x = new SixteenDesk();
        Check.assemble(x, ".ORIG 65534\nZ .FILL A\nY\nB HALT\nA");
        C.due("labels", Check.labels(x), "65534 65535 65535 65536");
        Check.assemble(x, ".ORIG 0\nB\nA HALT");
        C.due("labels", Check.labels(x), "0 0");
    }

    private static void dueNoLabel(SixteenDesk x, int i) {
        C.dueThrow("label(" + i + ")", NoSuchElementException.class, () -> x.label(i));
    }

    private static void labelThatIsNone() {
        C.sentence("Promise 7", "NoSuchElementException: there is none such.");
        SixteenDesk x = new SixteenDesk();
        dueNoLabel(x, 0);
        Check.assemble(x, ".ORIG 9\nA HALT !");
        dueNoLabel(x, 0);
        Check.assemble(x, Check.manyLabels(200));
        C.due("label(199)", x.label(199), 0x3000);
        dueNoLabel(x, 200);
        Check.assemble(x, ".ORIG 9\nA\nB HALT");
        dueNoLabel(x, 2);
        for (int i : FAR_OUT) {
            dueNoLabel(x, i);
        }
        Check.assemble(x, ".ORIG 9\nA\nB\nC !");
        dueNoLabel(x, 2);
        Check.assemble(x, ".ORIG 9\nHALT");
        dueNoLabel(x, 0);
    }

    private static void writeOfAPlace() {
        C.sentence("Promise 16", "The WORD that lies at a place (its lowest 16 bits;");
        SixteenDesk x = new SixteenDesk();
        x.poke(0, 0xF020);
        x.poke(65535, 0xC1C0);
        int[][] rows = {{0, 4}, {65536, 4}, {-65536, 4}, {65535, 3}, {-1, 3}, {131071, 3}, {Integer.MIN_VALUE, 4}, {Integer.MAX_VALUE, 3}};
        for (int[] row : rows) {
            C.due("write(" + row[0] + ")", x.write(row[0]), row[1]);
            C.due("written(0)", x.written(0), row[1] == 4 ? 'G' : 'R');
        }
    }

    private static void writeOfADevice() {
        C.sentence("Promise 16", "of a DEVICE as by peek()) is WRITTEN as a LINE: how many bytes it has.");
        SixteenDesk x = new SixteenDesk();
        int[] devices = {Check.KBSR, Check.KBDR, Check.DSR, Check.DDR, Check.MCR};
        String[] none = {".FILL x0000", ".FILL x0000", "RTI", ".FILL x0000", "RTI"};
        String[] key = {"RTI", ".FILL x00FF", "RTI", ".FILL x0000", "RTI"};
        for (int i = 0; i < devices.length; i++) {
            x.poke(devices[i], 0xF025);
            C.due("write(" + devices[i] + ")", x.write(devices[i]), none[i].length());
            C.due("without a key", Check.line(x, devices[i]), none[i]);
        }
        x.key(255);
        for (int i = 0; i < devices.length; i++) {
            C.due("with a key", Check.line(x, devices[i]), key[i]);
        }
        C.due("no key is gone", x.count(4), 1);
        Check.store(x, Check.KBSR, 0x4000);
        C.due("KBSR with its bit 14 and a key: x C000", Check.line(x, Check.KBSR), "JMP R0");
    }

    private static void writtenOfTheLatest() {
        C.sentence("Promise 17", "Byte i of the latest LINE that was WRITTEN;");
        SixteenDesk x = new SixteenDesk();
        x.poke(1, 0x1030);
        C.due("the longest LINE", x.write(1), 16);
        C.due("written(0)", x.written(0), 'A');
        C.due("written(3)", x.written(3), ' ');
        C.due("written(15)", x.written(15), '6');
        x.poke(1, 0xF023);
        C.due("it stays as it was WRITTEN", x.written(15), '6');
        C.due("the shortest LINE", x.write(1), 2);
        C.due("written(0)", x.written(0), 'I');
        C.due("written(1)", x.written(1), 'N');
        C.due("nothing is left of the one before", x.written(2), SixteenDesk.NONE);
    }

    private static void writtenThatIsNone() {
        C.sentence("Promise 17", "NONE if there is none.");
        SixteenDesk x = new SixteenDesk();
        C.due("written(0) ahead of any", x.written(0), SixteenDesk.NONE);
        x.poke(1, 0x1030);
        x.write(1);
        C.due("written(16)", x.written(16), SixteenDesk.NONE);
        for (int i : FAR_OUT) {
            C.due("written(" + i + ")", x.written(i), SixteenDesk.NONE);
        }
    }

    private static void againComesBehind() {
        C.sentence("Promise 18", "The LINE that was WRITTEN comes behind the TAPE, and a byte 10: how many bytes the TAPE has;");
        SixteenDesk x = new SixteenDesk();
        C.due("again() ahead of any LINE: the byte 10 alone", x.again(), 1);
        x.end(0);
        x.poke(1, 0x1030);
        x.poke(2, 0xF025);
        Check.feed(x, 0, ".ORIG 9\n");
        x.write(1);
        C.due("again()", x.again(), 25);
        C.due("the LINE stays", x.again(), 42);
        x.write(2);
        C.due("a shorter LINE", x.again(), 47);
        C.due("assemble()", x.assemble(), 0);
        C.due("words", Check.words(x), "1030 1030 F025");
        C.due("again() on the TAPE that is empty then", x.again(), 5);
        C.due("assemble()", x.assemble(), 1);
        C.due("told(1)", x.told(1), 0);
        Check.feed(x, 0, ".ORIG 9 ; no LINE end");
        C.due("again() behind a LINE that goes on", x.again(), 26);
        C.due("assemble()", x.assemble(), 0);
        C.due("told(2)", x.told(2), 0);
    }

    private static void againRefuses() {
        C.sentence("Promise 18", "NONE, and nothing comes, if it would have more than 4,000.");
        SixteenDesk x = new SixteenDesk();
        x.poke(2, 0xF025);
        x.write(2);
        int[] refused = {4000, 3999, 3996};
        fill(x, 4000);
        for (int length : refused) {
            x.end(length);
            C.due("again() behind " + length, x.again(), SixteenDesk.NONE);
            C.due("not even a part of it", x.end(length + 1), false);
        }
        x.end(3995);
        C.due("again() behind 3995", x.again(), 4000);
        C.due("again() once more", x.again(), SixteenDesk.NONE);
        C.due("assemble()", x.assemble(), 1);
        C.due("the LINE begins at 3995", x.told(1), 3995);
        SixteenDesk none = new SixteenDesk();
        fill(none, 4000);
        C.due("the byte 10 alone behind 4000", none.again(), SixteenDesk.NONE);
        none.end(3999);
        C.due("the byte 10 alone behind 3999", none.again(), 4000);
    }
}
