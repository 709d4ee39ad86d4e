import java.util.Arrays;

/** The instructions of 'Terms' 2: every WORD is done once, in the mode of users, and all registers are looked at behind it. */
public final class Terms2EveryWordTest {
    private static final Check C = new Check("Terms2EveryWordTest");
    private static final int PC = 0x5000;
    private static final int VECTOR_GOES_TO = 0x1234;
    /** Places that users may use, no two of them within reach of one another, nor of PC; two signs. */
    private static final int[] AS_PLACES = {0x6000, 0x8000, 0x3100, 0x7000, 0x9001, 0xA0F0, 0xB00F, 0x4ABC};
    /** Numbers of which sums and shared bits are often 0. */
    private static final int[] AS_NUMBERS = {0, 1, 0xFFFF, 16, 0xFFF1, 0x8000, 0x7FFF, 0x5AA5};

    public static void main(String[] args) {
        br();
        add();
        ld();
        st();
        jsr();
        and();
        ldr();
        str();
        rtiOfUsers();
        rtiOfSupervisors();
        not();
        ldi();
        sti();
        jmp();
        thirteen();
        lea();
        trap();
        C.finish();
    }

    private static int d(int word) {
        return word >> 9 & 7;
    }

    private static int a(int word) {
        return word >> 6 & 7;
    }

    private static int b(int word) {
        return word & 7;
    }

    /** The lowest bits as a number with sign. */
    private static int low(int word, int bits) {
        int all = 1 << bits;
        int v = word % all;
        return v < all / 2 ? v : v - all;
    }

    private static int near(int word) {
        return PC + 1 + low(word, 9);
    }

    /** N, Z or P, another with each WORD. */
    private static int signAhead(int word) {
        return 1 << word % 3;
    }

    /** A WORD of another sign with each. */
    private static int some(int word) {
        int[] three = {0, 0x8000 | word * 7 & 0x7FFF, 1 + word % 0x7FFF};
        return three[word % 3];
    }

    private static SixteenDesk desk(int word, int[] registers) {
        SixteenDesk x = Check.desk(0x8300 | signAhead(word), PC, word);
        for (int r = 0; r < 8; r++) {
            x.set(r, registers[r]);
        }
        return x;
    }

    /** What the registers are if a WORD does nothing but that PC goes on. */
    private static int[] went(int word, int[] registers) {
        int[] want = Arrays.copyOf(registers, 12);
        want[8] = PC + 1;
        want[9] = 0x8300 | signAhead(word);
        want[10] = 0x3000;
        want[11] = 0xFE00;
        return want;
    }

    private static void set(int[] want, int r, int v) {
        want[r] = v & 0xFFFF;
        want[9] = 0x8300 | (want[r] == 0 ? 2 : want[r] < 0x8000 ? 1 : 4);
    }

    private static void goneIn(int[] want) {
        want[11] = want[6];
        want[6] = want[10] - 2;
        want[9] &= 0x7FFF;
        want[8] = VECTOR_GOES_TO;
    }

    /** A WORD is laid at a place, but not upon the instruction: what lies there then. */
    private static int lay(SixteenDesk x, int place, int v) {
        if (place != PC) {
            x.poke(place, v);
        }
        return x.peek(place);
    }

    private static void dueStep(SixteenDesk x, int word, int[] want) {
        StringBuilder all = new StringBuilder();
        for (int r = 0; r < 12; r++) {
            all.append(r == 0 ? "" : " ").append(String.format("%X", want[r]));
        }
        String name = String.format("%04X", word);
        C.due(name + ": run(1)", x.run(1), 1);
        C.due(name + ": registers", Check.registers(x), all.toString());
    }

    /** Behind the STEP the WORD has come to this place, and to none beside it. */
    private static void dueKept(SixteenDesk x, int word, int place, int v) {
        String name = String.format("%04X", word);
        C.due(name + ": WORD", x.peek(place), v);
        C.due(name + ": WORD ahead", x.peek(place - 1), place - 1 == PC ? word : 0);
        C.due(name + ": WORD behind", x.peek(place + 1), place + 1 == PC ? word : 0);
    }

    private static void br() {
        C.sentence("Terms 2", "0 BR: if N and bit 11, Z and bit 10 or P and bit 9 are both 1, PC is PC + OFF9.");
        for (int word = 0; word <= 0x0FFF; word++) {
            int[] want = went(word, AS_PLACES);
            if ((d(word) & signAhead(word)) != 0) {
                want[8] = near(word);
            }
            dueStep(desk(word, AS_PLACES), word, want);
        }
    }

    private static void add() {
        C.sentence("Terms 2", "1 ADD: DR is SET to A + B, with bit 5 to A + IMM5.");
        for (int word = 0x1000; word <= 0x1FFF; word++) {
            int[] want = went(word, AS_NUMBERS);
            int other = (word & 32) != 0 ? low(word, 5) : AS_NUMBERS[b(word)];
            set(want, d(word), AS_NUMBERS[a(word)] + other);
            dueStep(desk(word, AS_NUMBERS), word, want);
        }
    }

    private static void ld() {
        C.sentence("Terms 2", "2 LD: DR is SET to the WORD at PC + OFF9.");
        for (int word = 0x2000; word <= 0x2FFF; word++) {
            SixteenDesk x = desk(word, AS_PLACES);
            int[] want = went(word, AS_PLACES);
            set(want, d(word), lay(x, near(word), some(word)));
            dueStep(x, word, want);
        }
    }

    private static void st() {
        C.sentence("Terms 2", "3 ST: SR comes to the WORD at PC + OFF9.");
        for (int word = 0x3000; word <= 0x3FFF; word++) {
            SixteenDesk x = desk(word, AS_PLACES);
            dueStep(x, word, went(word, AS_PLACES));
            dueKept(x, word, near(word), AS_PLACES[d(word)]);
        }
    }

    private static void jsr() {
        C.sentence("Terms 2", "4 JSR: R7 is PC, PC is PC + OFF11; with bit 11 0 (JSRR): PC is A (as it was), R7 the PC behind.");
        for (int word = 0x4000; word <= 0x4FFF; word++) {
            int[] want = went(word, AS_PLACES);
            want[7] = PC + 1;
            want[8] = word >= 0x4800 ? PC + 1 + low(word, 11) : AS_PLACES[a(word)];
            dueStep(desk(word, AS_PLACES), word, want);
        }
    }

    private static void and() {
        C.sentence("Terms 2", "5 AND: likewise as ADD, bit by bit.");
        for (int word = 0x5000; word <= 0x5FFF; word++) {
            int[] want = went(word, AS_NUMBERS);
            int other = (word & 32) != 0 ? low(word, 5) : AS_NUMBERS[b(word)];
            set(want, d(word), AS_NUMBERS[a(word)] & other);
            dueStep(desk(word, AS_NUMBERS), word, want);
        }
    }

    private static void ldr() {
        C.sentence("Terms 2", "6 LDR: DR is SET to the WORD at A + OFF6.");
        for (int word = 0x6000; word <= 0x6FFF; word++) {
            SixteenDesk x = desk(word, AS_PLACES);
            int[] want = went(word, AS_PLACES);
            set(want, d(word), lay(x, AS_PLACES[a(word)] + low(word, 6), some(word)));
            dueStep(x, word, want);
        }
    }

    private static void str() {
        C.sentence("Terms 2", "7 STR: SR comes to the WORD at A + OFF6.");
        for (int word = 0x7000; word <= 0x7FFF; word++) {
            SixteenDesk x = desk(word, AS_PLACES);
            dueStep(x, word, went(word, AS_PLACES));
            dueKept(x, word, AS_PLACES[a(word)] + low(word, 6), AS_PLACES[d(word)]);
        }
    }

    private static void rtiOfUsers() {
        C.sentence("Terms 2", "RTI: in the mode of users exception 0.");
        for (int word = 0x8000; word <= 0x8FFF; word++) {
            SixteenDesk x = desk(word, AS_PLACES);
            x.poke(256, VECTOR_GOES_TO);
            int[] want = went(word, AS_PLACES);
            goneIn(want);
            dueStep(x, word, want);
        }
    }

    private static void rtiOfSupervisors() {
        C.sentence("Terms 2", "Else what is READ at R6 comes to PC, then what is READ at R6 + 1 to PSR (of it bits 15, 10 to 8, 2 to 0), R6 is 2 more;"
            + " if the mode is that of users then: SUPER is R6, R6 is USER.");
        for (int word = 0x8000; word <= 0x8FFF; word++) {
            SixteenDesk x = desk(word, AS_PLACES);
            x.set(9, 0x0702);
            int[] want = went(word, AS_PLACES);
            want[8] = lay(x, AS_PLACES[6], some(word));
            want[9] = lay(x, AS_PLACES[6] + 1, word * 16) & 0x8707;
            want[6] = AS_PLACES[6] + 2;
            if (want[9] >= 0x8000) {
                want[10] = want[6];
                want[6] = want[11];
            }
            dueStep(x, word, want);
        }
    }

    private static void not() {
        C.sentence("Terms 2", "9 NOT: DR is SET to A with all bits turned.");
        for (int word = 0x9000; word <= 0x9FFF; word++) {
            int[] want = went(word, AS_NUMBERS);
            set(want, d(word), 65535 - AS_NUMBERS[a(word)]);
            dueStep(desk(word, AS_NUMBERS), word, want);
        }
    }

    private static void ldi() {
        C.sentence("Terms 2", "10 LDI: DR is SET to the WORD at the WORD at PC + OFF9.");
        for (int word = 0xA000; word <= 0xAFFF; word++) {
            SixteenDesk x = desk(word, AS_PLACES);
            int place = lay(x, near(word), word - 0x4000);
            int[] want = went(word, AS_PLACES);
            set(want, d(word), lay(x, place, some(word)));
            dueStep(x, word, want);
        }
    }

    private static void sti() {
        C.sentence("Terms 2", "11 STI: SR comes to the WORD at the WORD at PC + OFF9.");
        for (int word = 0xB000; word <= 0xBFFF; word++) {
            SixteenDesk x = desk(word, AS_PLACES);
            int place = lay(x, near(word), word - 0x4000);
            dueStep(x, word, went(word, AS_PLACES));
            dueKept(x, word, place, AS_PLACES[d(word)]);
        }
    }

    private static void jmp() {
        C.sentence("Terms 2", "12 JMP: PC is A.");
        for (int word = 0xC000; word <= 0xCFFF; word++) {
            int[] want = went(word, AS_PLACES);
            want[8] = AS_PLACES[a(word)];
            dueStep(desk(word, AS_PLACES), word, want);
        }
    }

    private static void thirteen() {
        C.sentence("Terms 2", "13: exception 1.");
        for (int word = 0xD000; word <= 0xDFFF; word++) {
            SixteenDesk x = desk(word, AS_PLACES);
            x.poke(257, VECTOR_GOES_TO);
            int[] want = went(word, AS_PLACES);
            goneIn(want);
            dueStep(x, word, want);
        }
    }

    private static void lea() {
        C.sentence("Terms 2", "14 LEA: DR is PC + OFF9 (N, Z, P stay).");
        for (int word = 0xE000; word <= 0xEFFF; word++) {
            int[] want = went(word, AS_PLACES);
            want[d(word)] = near(word);
            dueStep(desk(word, AS_PLACES), word, want);
        }
    }

    private static void trap() {
        C.sentence("Terms 2", "15 TRAP: by the lowest 8 bits, V.");
        for (int word = 0xF000; word <= 0xFFFF; word++) {
            SixteenDesk x = desk(word, AS_PLACES);
            x.poke(word & 255, VECTOR_GOES_TO);
            int[] want = went(word, AS_PLACES);
            goneIn(want);
            dueStep(x, word, want);
            C.due("what lies behind TRAP", x.peek(0x2FFE), PC + 1);
        }
    }
}
