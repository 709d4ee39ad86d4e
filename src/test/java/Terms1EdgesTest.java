/** The boundary cases that 'Terms' 1 names (the machine and its DEVICES). Each method holds the sentence that it quotes. */
public final class Terms1EdgesTest {
    private static final Check C = new Check("Terms1EdgesTest");
    private static final int[] DEVICES = {Check.KBSR, Check.KBDR, Check.DSR, Check.DDR, Check.MCR};
    private static final int[] BARRED = {0, 255, 12287, 65024, 65025, 65026, 65028, 65030, 65534, 65535};
    private static final int[] OPEN = {12288, 12289, 32767, 32768, 65022, 65023};

    public static void main(String[] args) {
        sumsGoRound();
        sumsOfPlacesGoRound();
        sumsOfStacksGoRound();
        wordsHave16Bits();
        signOfWords();
        memoryAtFirst();
        memoryIsSoLarge();
        registersAtFirst();
        modeAndPriority();
        oneOfThreeSigns();
        otherBitsOfPsr();
        fiveDevices();
        kbsrRead();
        kbdrGivesTheOldestKey();
        kbdrWithoutAKey();
        otherDevicesRead();
        readsWriteNothing();
        kbsrWritten();
        ddrWritten();
        mcrWritten();
        kbdrAndDsrWritten();
        usersAreBarred();
        usersAreBarredByDistance();
        usersInstructionsAreBarred();
        nothingBehindAFault();
        C.finish();
    }

    /** The word is done once at a place, by a SUPERVISOR with R2 and R3 as told: what a register is then. */
    private static void dueSum(String what, int pc, int word, int r2, int r3, int r, int want) {
        SixteenDesk x = Check.desk(Check.SUPERVISORS, pc, word);
        x.set(2, r2);
        x.set(3, r3);
        x.run(1);
        C.due(what, x.register(r), want);
    }

    private static void sumsGoRound() {
        C.sentence("Terms 1", "sums are taken modulo 65536");
        dueSum("ADD 65535 + 1", 0x3000, 0x1283, 65535, 1, 1, 0);
        dueSum("ADD 65535 + 65535", 0x3000, 0x1283, 65535, 65535, 1, 65534);
        dueSum("ADD 32768 + 32768", 0x3000, 0x1283, 32768, 32768, 1, 0);
        dueSum("ADD 32767 + 1", 0x3000, 0x1283, 32767, 1, 1, 32768);
        dueSum("ADD 0 + #-1", 0x3000, 0x12BF, 0, 0, 1, 65535);
        dueSum("ADD 65535 + #15", 0x3000, 0x12AF, 65535, 0, 1, 14);
        dueSum("PC behind the last WORD", 65535, 0x1283, 0, 0, 8, 0);
        dueSum("BR beyond the last WORD", 65535, 0x0EFF, 0, 0, 8, 255);
        dueSum("BR ahead of the first WORD", 0, 0x0F00, 0, 0, 8, 65281);
        dueSum("JSR beyond the last WORD", 65535, 0x4BFF, 0, 0, 8, 1023);
        dueSum("JSR ahead of the first WORD", 0, 0x4C00, 0, 0, 8, 64513);
        dueSum("R7 of JSR in the last WORD", 65535, 0x4800, 0, 0, 7, 0);
        dueSum("LEA beyond the last WORD", 65535, 0xE2FF, 0, 0, 1, 255);
        dueSum("LEA ahead of the first WORD", 0, 0xE300, 0, 0, 1, 65281);
    }

    /** The word, done once by a SUPERVISOR, brings R1 from a place, or to it. */
    private static void dueReach(String what, int pc, int word, int r2, int place) {
        SixteenDesk x = Check.desk(Check.SUPERVISORS, pc, word);
        boolean stores = (word >> 12 & 3) == 3;
        boolean indirect = word >= 0x8000;
        x.set(1, 0x0777);
        x.set(2, r2);
        x.poke(0x5000, 0x0555);
        x.poke(place, indirect ? 0x5000 : 0x0555);
        x.run(1);
        C.due(what, stores ? x.peek(indirect ? 0x5000 : place) : x.register(1), stores ? 0x0777 : 0x0555);
    }

    private static void sumsOfPlacesGoRound() {
        C.sentence("Terms 1", "sums are taken modulo 65536");
        dueReach("LD beyond the last WORD", 65535, 0x2201, 0, 1);
        dueReach("LD ahead of the first WORD", 0, 0x23FE, 0, 65535);
        dueReach("ST beyond the last WORD", 65535, 0x3201, 0, 1);
        dueReach("ST ahead of the first WORD", 0, 0x33FE, 0, 65535);
        dueReach("LDI beyond the last WORD", 65535, 0xA201, 0, 1);
        dueReach("LDI ahead of the first WORD", 0, 0xA3FE, 0, 65535);
        dueReach("STI beyond the last WORD", 65535, 0xB201, 0, 1);
        dueReach("STI ahead of the first WORD", 0, 0xB3FE, 0, 65535);
        dueReach("LDR beyond the last WORD", 0x3000, 0x6281, 65535, 0);
        dueReach("LDR ahead of the first WORD", 0x3000, 0x62BF, 0, 65535);
        dueReach("STR beyond the last WORD", 0x3000, 0x7281, 65535, 0);
        dueReach("STR ahead of the first WORD", 0x3000, 0x72BF, 0, 65535);
    }

    private static void sumsOfStacksGoRound() {
        C.sentence("Terms 1", "sums are taken modulo 65536");
        SixteenDesk in = Check.desk(Check.SUPERVISORS, 0x3000, 0xD000);
        in.set(6, 1);
        in.run(1);
        C.due("R6 behind TO GO IN from 1", in.register(6), 65535);
        C.due("PSR at 0", in.peek(0), Check.SUPERVISORS);
        C.due("PC at 65535", in.peek(65535), 0x3001);
        SixteenDesk zero = Check.desk(Check.SUPERVISORS, 0x9000, 0xD000);
        zero.set(6, 0);
        zero.run(1);
        C.due("R6 behind TO GO IN from 0", zero.register(6), 65534);
        C.due("PSR at 65535", zero.peek(65535), Check.SUPERVISORS);
        SixteenDesk back = Check.desk(Check.SUPERVISORS, 0x3000, 0x8000);
        back.set(6, 65535);
        back.poke(65535, 0x1111);
        back.poke(0, 0x0104);
        back.run(1);
        C.due("R6 behind RTI from 65535", back.register(6), 1);
        C.due("PC from 65535", back.register(8), 0x1111);
        C.due("PSR from 0", back.register(9), 0x0104);
        SixteenDesk text = Check.desk(Check.SUPERVISORS, 0x3000, 0xF022, 0xF024);
        text.set(0, 65535);
        text.poke(65535, 65);
        text.poke(0, 66);
        text.run(2);
        C.due("PUTS and PUTSP beyond the last WORD", Check.bytes(text), "65 66 65 66");
    }

    private static void wordsHave16Bits() {
        C.sentence("Terms 1", "WORDS have 16 bits, 0 to 65535");
        SixteenDesk x = Check.desk(Check.USERS, 0x3000, 0x92BF, 0x7300);
        x.set(2, 0x10000);
        x.set(4, 0x4000);
        x.run(2);
        C.due("NOT of 65536's lowest 16 bits", x.register(1), 65535);
        C.due("what it brings to the MEMORY", x.peek(0x4000), 65535);
    }

    private static void signOfWords() {
        C.sentence("Terms 1", "As a number with sign a WORD from 32768 on stands for 65536 less.");
        dueSum("N, Z, P of 32767", 0x3000, 0x12A0, 32767, 0, 9, 0x0701);
        dueSum("N, Z, P of 32768", 0x3000, 0x12A0, 32768, 0, 9, 0x0704);
        dueSum("N, Z, P of 65535", 0x3000, 0x12A0, 65535, 0, 9, 0x0704);
    }

    // Four hundred places an object, which keeps each within its 512 calls.
    private static void memoryAtFirst() {
        C.sentence("Terms 1", "The MEMORY has 65,536 WORDS, all 0 at first.");
        int notZero = 0;
        for (int from = 0; from < 65536; from += 400) {
            SixteenDesk x = new SixteenDesk();
            for (int place = from; place < from + 400 && place < 65536; place++) {
                notZero += x.peek(place) != 0 ? 1 : 0;
            }
        }
        C.due("WORDS that are not 0 (DSR and MCR)", notZero, 2);
    }

    private static void memoryIsSoLarge() {
        C.sentence("Terms 1", "The MEMORY has 65,536 WORDS");
        SixteenDesk x = new SixteenDesk();
        x.poke(0, 100);
        x.poke(65535, 200);
        for (int bit = 0; bit < 16; bit++) {
            x.poke(1 << bit, bit + 1);
            x.poke(65535 - (1 << bit), bit + 201);
        }
        C.due("the first WORD", x.peek(0), 100);
        C.due("the last WORD", x.peek(65535), 200);
        for (int bit = 0; bit < 16; bit++) {
            boolean device = 65535 - (1 << bit) == Check.MCR;
            C.due("the WORD " + (1 << bit), x.peek(1 << bit), bit + 1);
            C.due("the WORD " + (65535 - (1 << bit)), x.peek(65535 - (1 << bit)), device ? 32768 : bit + 201);
        }
    }

    private static void registersAtFirst() {
        C.sentence("Terms 1", "At first R0 to R7 are 0, PC 12288 (x3000), PSR 32770 (x8002), SUPER 12288, USER 65024 (xFE00).");
        int[] due = {0, 0, 0, 0, 0, 0, 0, 0, 12288, 32770, 12288, 65024};
        SixteenDesk x = new SixteenDesk();
        for (int r = 0; r < due.length; r++) {
            C.due("register(" + r + ")", x.register(r), due[r]);
        }
    }

    // Users are barred from place 0; a key interrupts below PRIORITY 4.
    private static void modeAndPriority() {
        C.sentence("Terms 1", "PSR: bit 15: 1 the mode of users, 0 that of the SUPERVISOR; bits 10 to 8: PRIORITY;");
        for (int bits = 0; bits < 16; bits++) {
            int psr = (bits & 8) << 12 | (bits & 7) << 8 | 2;
            SixteenDesk x = Check.desk(psr, 0x3000, 0x6280);
            x.run(1);
            C.due("exceptions with PSR " + psr, x.count(2), bits >> 3);
            Check.store(x, Check.KBSR, 0x4000);
            x.set(9, psr);
            x.set(8, 0x4000);
            x.key(1);
            x.run(1);
            C.due("interrupts with PSR " + psr, x.count(1), (bits & 7) < 4 ? 1 : 0);
        }
    }

    private static void oneOfThreeSigns() {
        C.sentence("Terms 1", "bits 2, 1, 0: N, Z, P, of which one is 1 where a register was SET last: the WORD is below 0 (with sign), is 0, is above 0.");
        int[] words = {0x1283, 0x12A0, 0x5282, 0x52BF, 0x92BF, 0x2210, 0xA211, 0x6300};
        int[][] values = {{0, 2}, {1, 1}, {32767, 1}, {32768, 4}, {65535, 4}};
        for (int word : words) {
            for (int[] value : values) {
                for (int before = 0; before < 8; before++) {
                    SixteenDesk x = Check.desk(0x8500 | before, 0x3000, word);
                    x.set(2, word == 0x92BF ? ~value[0] : value[0]);
                    x.set(4, 0x4000);
                    x.poke(0x3011, value[0]);
                    x.poke(0x3012, 0x4000);
                    x.poke(0x4000, value[0]);
                    x.run(1);
                    String what = String.format("%04X gives %d, from %d", word, value[0], before);
                    C.due(what, x.register(1), value[0]);
                    C.due(what + ": PSR", x.register(9), 0x8500 | value[1]);
                }
            }
        }
    }

    private static void otherBitsOfPsr() {
        C.sentence("Terms 1", "The other bits are 0.");
        SixteenDesk x = new SixteenDesk();
        x.set(9, 65535);
        C.due("PSR set to 65535", x.register(9), 0x8707);
        x.set(9, 0x78F8);
        C.due("PSR set to its other bits", x.register(9), 0);
        int[][] stacked = {{0xFFFF, 0x8707}, {0x78F8, 0}, {0x7FFF, 0x0707}};
        for (int[] row : stacked) {
            SixteenDesk y = Check.desk(Check.SUPERVISORS, 0x3000, 0x8000);
            y.set(6, 0x5000);
            y.poke(0x5001, row[0]);
            y.run(1);
            C.due("PSR that RTI brings", y.register(9), row[1]);
        }
    }

    private static boolean isDevice(int place) {
        for (int device : DEVICES) {
            if (device == place) {
                return true;
            }
        }
        return false;
    }

    private static void fiveDevices() {
        C.sentence("Terms 1", "DEVICES are five WORDS of the MEMORY: KBSR 65024 (xFE00), KBDR 65026, DSR 65028, DDR 65030, MCR 65534.");
        for (int place = 65020; place < 65536; place++) {
            if (!isDevice(place)) {
                SixteenDesk x = new SixteenDesk();
                x.key(99);
                Check.store(x, place, 0x4141);
                C.due("a WORD beside the DEVICES keeps what is WRITTEN: " + place, x.peek(place), 0x4141);
                C.due("and gives it", Check.read(x, place), 0x4141);
                C.due("nothing is PRINTED", x.printed(), 0);
                C.due("no key is gone", x.count(4), 1);
                C.due("it RUNS", x.state(), 0);
                C.due("KBSR", x.peek(Check.KBSR), 32768);
            }
        }
    }

    private static void kbsrRead() {
        C.sentence("Terms 1", "KBSR: bit 15 is 1 if a key WAITS, bit 14 as written last (0 at first), others 0;");
        SixteenDesk x = new SixteenDesk();
        C.due("KBSR at first", Check.read(x, Check.KBSR), 0);
        Check.store(x, Check.KBSR, 65535);
        C.due("KBSR, written 65535, without a key", Check.read(x, Check.KBSR), 0x4000);
        x.key(0);
        C.due("KBSR with a key (0)", Check.read(x, Check.KBSR), 0xC000);
        for (int k = 1; k < 100; k++) {
            x.key(k);
        }
        C.due("KBSR with 100 keys", Check.read(x, Check.KBSR), 0xC000);
        Check.store(x, Check.KBSR, 0xBFFF);
        C.due("KBSR, written xBFFF", Check.read(x, Check.KBSR), 0x8000);
        Check.readyToRead(x, Check.KBDR);
        for (int k = 0; k < 100; k++) {
            C.due("KBSR while keys WAIT", x.peek(Check.KBSR), 0x8000);
            x.run(2);
        }
        C.due("KBSR behind the last key", Check.read(x, Check.KBSR), 0);
    }

    private static void kbdrGivesTheOldestKey() {
        C.sentence("Terms 1", "KBDR: the key that waits longest, which is gone then");
        SixteenDesk x = new SixteenDesk();
        x.key(7);
        x.key(0);
        x.key(255);
        C.due("the first key", Check.read(x, Check.KBDR), 7);
        C.due("it is gone", x.count(4), 2);
        C.due("the second key", Check.read(x, Check.KBDR), 0);
        x.key(9);
        C.due("the third key", Check.read(x, Check.KBDR), 255);
        C.due("the one that came behind", Check.read(x, Check.KBDR), 9);
        C.due("all are gone", x.count(4), 0);
    }

    private static void kbdrWithoutAKey() {
        C.sentence("Terms 1", "(if none waits what was read there last, 0 at first)");
        SixteenDesk x = new SixteenDesk();
        C.due("KBDR at first", Check.read(x, Check.KBDR), 0);
        x.key(5);
        x.key(6);
        Check.read(x, Check.KBDR);
        C.due("the second key", Check.read(x, Check.KBDR), 6);
        C.due("the second key again", Check.read(x, Check.KBDR), 6);
        C.due("and again", Check.read(x, Check.KBDR), 6);
        C.due("no key is gone", x.count(4), 0);
        Check.store(x, Check.KBDR, 77);
        C.due("what is WRITTEN there is not read", Check.read(x, Check.KBDR), 6);
    }

    private static void otherDevicesRead() {
        C.sentence("Terms 1", "DSR: 32768; DDR: 0; MCR: 32768.");
        SixteenDesk x = new SixteenDesk();
        C.due("DSR", Check.read(x, Check.DSR), 32768);
        C.due("DDR", Check.read(x, Check.DDR), 0);
        C.due("MCR", Check.read(x, Check.MCR), 32768);
        Check.store(x, Check.DSR, 0x1234);
        Check.store(x, Check.DDR, 0x1234);
        Check.store(x, Check.MCR, 0xFFFF);
        C.due("DSR behind a WRITE", Check.read(x, Check.DSR), 32768);
        C.due("DDR behind a WRITE", Check.read(x, Check.DDR), 0);
        C.due("MCR behind a WRITE", Check.read(x, Check.MCR), 32768);
    }

    // LD, LDI and LDR of each DEVICE: what a WRITE there would do is not done.
    private static void readsWriteNothing() {
        C.sentence("Terms 1", "DSR: 32768; DDR: 0; MCR: 32768.");
        int[][] devices = {{Check.KBSR, 0}, {Check.KBDR, 0}, {Check.DSR, 32768}, {Check.DDR, 0}, {Check.MCR, 32768}};
        int[] codes = {0x2202, 0x6280, 0xA202};
        for (int[] device : devices) {
            for (int code : codes) {
                SixteenDesk x = Check.desk(Check.SUPERVISORS, code == 0x2202 ? device[0] - 3 : 0x3000, code);
                x.poke(0x3003, device[0]);
                x.set(1, 0x4141);
                x.set(2, device[0]);
                x.run(1);
                C.due(String.format("%04X of %d", code, device[0]), x.register(1), device[1]);
                C.due("nothing is PRINTED", x.printed(), 0);
                C.due("it RUNS", x.state(), 0);
                C.due("KBSR", x.peek(Check.KBSR), 0);
            }
        }
    }

    private static void kbsrWritten() {
        C.sentence("Terms 1", "KBSR: its bit 14 is kept;");
        int[][] rows = {{0x4000, 0x4000}, {0, 0}, {0xFFFF, 0x4000}, {0xBFFF, 0}, {0x7FFF, 0x4000}, {0x8000, 0}};
        SixteenDesk x = new SixteenDesk();
        for (int[] row : rows) {
            Check.store(x, Check.KBSR, row[0]);
            C.due("KBSR, written " + row[0], x.peek(Check.KBSR), row[1]);
        }
        C.due("nothing is PRINTED", x.printed(), 0);
        C.due("it RUNS", x.state(), 0);
    }

    private static void ddrWritten() {
        C.sentence("Terms 1", "DDR: its lowest 8 bits are PRINTED;");
        SixteenDesk x = new SixteenDesk();
        int[] words = {0, 255, 256, 0xFF41, 65535};
        for (int word : words) {
            Check.store(x, Check.DDR, word);
        }
        C.due("what is PRINTED", Check.bytes(x), "0 255 0 65 255");
        C.due("KBSR", x.peek(Check.KBSR), 0);
        C.due("it RUNS", x.state(), 0);
    }

    private static void mcrWritten() {
        C.sentence("Terms 1", "MCR: if bit 15 is 0 the machine is HALTED;");
        int[][] rows = {{0x8000, 0}, {0xFFFF, 0}, {0x7FFF, 1}, {0, 1}, {0x4000, 1}};
        for (int[] row : rows) {
            SixteenDesk x = new SixteenDesk();
            Check.store(x, Check.MCR, row[0]);
            C.due("state() behind MCR, written " + row[0], x.state(), row[1]);
        }
    }

    private static void kbdrAndDsrWritten() {
        C.sentence("Terms 1", "KBDR, DSR: nothing.");
        SixteenDesk x = new SixteenDesk();
        x.key(3);
        Check.store(x, Check.KBDR, 0);
        Check.store(x, Check.DSR, 0);
        C.due("the key WAITS", x.count(4), 1);
        C.due("KBDR", x.peek(Check.KBDR), 3);
        C.due("KBSR", x.peek(Check.KBSR), 32768);
        C.due("DSR", x.peek(Check.DSR), 32768);
        C.due("it RUNS", x.state(), 0);
        C.due("nothing is PRINTED", x.printed(), 0);
    }

    /** A desk of users with an instruction at a place that takes R2 as a place, or what lies x11 behind it. */
    private static SixteenDesk reaching(int psr, int word, int place) {
        SixteenDesk x = Check.desk(psr, 0x4000, word);
        x.poke(258, 0x1200);
        x.poke(place, 0x0555);
        x.poke(0x4011, place);
        x.set(1, 0x0777);
        x.set(2, place);
        x.set(6, 0x5000);
        x.key(33);
        return x;
    }

    private static void dueBarred(String what, SixteenDesk x, int place, int behind, int psr) {
        // The stack of the SUPERVISOR lies where none of these places is.
        x.set(10, 0x2000);
        int lay = x.peek(place);
        C.due(what + ": run(1)", x.run(1), 1);
        C.due(what + ": exceptions", x.count(2), 1);
        C.due(what + ": PC", x.register(8), 0x1200);
        C.due(what + ": PC as it was", x.peek(0x1FFE), behind);
        C.due(what + ": PSR as it was", x.peek(0x1FFF), psr);
        C.due(what + ": R1 stays", x.register(1), 0x0777);
        C.due(what + ": what lies there stays", x.peek(place), lay);
        C.due(what + ": no key is gone", x.count(4), 1);
        C.due(what + ": nothing is PRINTED", x.printed(), 0);
        C.due(what + ": it RUNS", x.state(), 0);
    }

    private static void usersAreBarred() {
        C.sentence("Terms 1", "In the mode of users a READ, a WRITE of a WORD below 12288 or from 65024 on (also of an instruction) is a FAULT");
        int[] words = {0x6280, 0x7280, 0xA210, 0xB210};
        for (int word : words) {
            for (int place : BARRED) {
                String what = String.format("%04X at %d", word, place);
                dueBarred(what, reaching(0x8301, word, place), place, 0x4001, 0x8301);
                SixteenDesk free = reaching(0x0701, word, place);
                free.run(1);
                C.due(what + " by a SUPERVISOR", free.count(2), 0);
            }
            for (int place : OPEN) {
                SixteenDesk x = reaching(0x8301, word, place);
                x.run(1);
                boolean stores = (word >> 12 & 3) == 3;
                C.due(String.format("%04X at %d: exceptions", word, place), x.count(2), 0);
                C.due("it is done", stores ? x.peek(place) : x.register(1), stores ? 0x0777 : 0x0555);
            }
        }
    }

    private static void usersAreBarredByDistance() {
        C.sentence("Terms 1", "In the mode of users a READ, a WRITE of a WORD below 12288 or from 65024 on (also of an instruction) is a FAULT");
        int[] codes = {0x2200, 0x3200, 0xA200, 0xB200};
        int[][] rows = {{12288, -2, 12287, 1}, {12289, -2, 12288, 0}, {65022, 1, 65024, 1}, {65021, 1, 65023, 0}};
        for (int code : codes) {
            for (int[] row : rows) {
                SixteenDesk x = Check.desk(Check.USERS, row[0], code | row[1] & 511);
                x.poke(258, 0x1200);
                x.poke(row[2], 0x5000);
                x.set(1, 0x0777);
                x.key(33);
                String what = String.format("%04X at %d, of %d", code, row[0], row[2]);
                if (row[3] == 1) {
                    dueBarred(what, x, row[2], row[0] + 1, Check.USERS);
                } else {
                    x.run(1);
                    C.due(what + ": exceptions", x.count(2), 0);
                }
            }
        }
    }

    private static void usersInstructionsAreBarred() {
        C.sentence("Terms 1", "(also of an instruction)");
        for (int place : BARRED) {
            SixteenDesk x = Check.desk(0x8301, place, 0x127F);
            x.poke(258, 0x1200);
            x.set(1, 0x0777);
            x.key(33);
            dueBarred("an instruction at " + place, x, place, place + 1 & 65535, 0x8301);
        }
        for (int place : OPEN) {
            SixteenDesk x = Check.desk(0x8301, place, 0x127F);
            x.run(1);
            C.due("an instruction at " + place, x.register(1), 65535);
            C.due("exceptions", x.count(2), 0);
        }
    }

    private static void nothingBehindAFault() {
        C.sentence("Terms 1", "it is not done, nor anything behind it in this STEP, and the exception 2 comes.");
        int[] words = {0xA3FE, 0xB3FE};
        for (int word : words) {
            SixteenDesk x = Check.desk(Check.USERS, 12288, word);
            x.poke(258, 0x1200);
            x.poke(0, 0x0444);
            x.poke(12287, 0x5000);
            x.poke(0x5000, 0x0555);
            x.set(10, 0x2000);
            x.set(1, 0x0777);
            x.run(1);
            String what = String.format("%04X", word);
            C.due(what + ": the place that it would have told", x.peek(0x5000), 0x0555);
            C.due(what + ": the first WORD", x.peek(0), 0x0444);
            C.due(what + ": R1", x.register(1), 0x0777);
            C.due(what + ": N, Z, P", x.register(9), 2);
            C.due(what + ": one exception, not two", x.count(2), 1);
            C.due(what + ": PC", x.register(8), 0x1200);
        }
        SixteenDesk y = Check.desk(Check.USERS, 65026, 0);
        y.key(8);
        y.run(1);
        C.due("an instruction at KBDR: no key is gone", y.count(4), 1);
        C.due("an instruction at KBDR: exceptions", y.count(2), 1);
    }
}
