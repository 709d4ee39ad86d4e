/**
 * A call that is refused changes nothing: each is made of a desk on which every part has been used, and the desk is the same
 * behind it. What the TAPE has is told by assembling it at the end.
 */
public final class RefusedEdgesTest {
    private static final Check C = new Check("RefusedEdgesTest");
    private static final String TAPE = ".ORIG 9\nRET\nM RTI\n";

    public static void main(String[] args) {
        C.sentence("Terms 4", "A call that is refused changes nothing but what is said.");
        int[] numbers = {-1, 12, Integer.MIN_VALUE, Integer.MAX_VALUE};
        for (int n : numbers) {
            dueRefused("end(" + n + ")", x -> C.due("end", x.end(n < 0 ? n : Math.max(n, TAPE.length() + 1)), false));
            dueRefused("told(" + n + ")", x -> thrown(() -> x.told(n)));
            dueRefused("word(" + n + ")", x -> thrown(() -> x.word(n)));
            dueRefused("label(" + n + ")", x -> thrown(() -> x.label(n)));
            dueRefused("register(" + n + ")", x -> thrown(() -> x.register(n)));
            dueRefused("set(" + n + ", 7)", x -> C.due("set", x.set(n, 7), false));
            dueRefused("count(" + n + ")", x -> thrown(() -> x.count(n)));
        }
        int[] steps = {-1, 20001, Integer.MIN_VALUE, Integer.MAX_VALUE};
        for (int n : steps) {
            dueRefused("run(" + n + ")", x -> thrown(() -> x.run(n)));
        }
        feedAndAgain();
        key();
        assemble();
        load();
        C.finish();
    }

    private interface Call {
        void of(SixteenDesk x);
    }

    private static void thrown(Runnable call) {
        boolean thrown = false;
        try {
            call.run();
        } catch (RuntimeException e) {
            thrown = true;
        }
        C.due("it is refused", thrown, true);
    }

    /** A desk on which every part has been used: it has printed, taken one key of three and WAITS for none, and has a text on its TAPE. */
    private static SixteenDesk used() {
        SixteenDesk x = Check.loaded(".ORIG x3000\nA GETC\nB OUT\nD .FILL xD000\nTRAP x80\nHALT");
        x.poke(0x80, 0x1000);
        x.poke(257, 0x2000);
        x.poke(0x2000, 0x8000);
        x.poke(384, 0x1000);
        x.poke(0x1000, 0x8000);
        x.key(65);
        x.key(66);
        x.key(67);
        x.run(6);
        Check.read(x, Check.KBDR);
        Check.store(x, Check.KBSR, 0x4000);
        for (int r = 0; r < 12; r++) {
            x.set(r, 0x8100 + r);
        }
        x.write(0x3001);
        Check.assemble(x, ".ORIG 7\nN HALT\n!");
        Check.feed(x, 0, TAPE);
        return x;
    }

    /** All that can be asked without a change. */
    private static String all(SixteenDesk x) {
        StringBuilder all = new StringBuilder(Check.registers(x));
        all.append(" state ").append(x.state());
        for (int what = 0; what < 5; what++) {
            all.append(" told ").append(x.told(what)).append(" count ").append(x.count(what));
        }
        all.append(" words ").append(Check.words(x)).append(" labels ").append(Check.labels(x)).append(" printed ").append(Check.bytes(x));
        int[] places = {0, 9, 12, 0x80, 257, 384, 0x2FFE, 0x2FFF, 0x3000, 0x3004, Check.KBSR, Check.KBDR, Check.DSR, Check.DDR, Check.MCR, 65535};
        for (int place : places) {
            all.append(' ').append(x.peek(place));
        }
        for (int i = 0; i < 17; i++) {
            all.append(' ').append(x.written(i));
        }
        return all.toString();
    }

    private static void dueRefused(String what, Call call) {
        SixteenDesk x = used();
        String before = all(x);
        call.of(x);
        C.due("all behind " + what, all(x), before);
        C.due("the TAPE behind " + what + ": end() of one more", x.end(TAPE.length() + 1), false);
        C.due("the TAPE behind " + what + ": assemble()", x.assemble(), 0);
        C.due("the TAPE behind " + what + ": its words", Check.words(x), "C1C0 8000");
    }

    // The TAPE has TAPE and blanks, with room for 19 bytes, or for none.
    private static void feedAndAgain() {
        int[] lengths = {3981, 4000};
        for (int length : lengths) {
            SixteenDesk x = used();
            for (int n = TAPE.length(); n + 20 <= 4000; n += 20) {
                x.feed(0x20202020, 0x20202020, 0x20202020, 0x20202020, 0x20202020);
            }
            x.end(3980);
            x.feed(0x20202020, 0x20202020, 0x20202020, 0x20202020, 0x20202020);
            C.due("end(" + length + ")", x.end(length), true);
            String before = all(x);
            C.due("feed() behind " + length, x.feed(0x21212121, 0x21212121, 0x21212121, 0x21212121, 0x21212121), SixteenDesk.NONE);
            if (length == 4000) {
                C.due("again() behind " + length, x.again(), SixteenDesk.NONE);
            }
            C.due("all behind a refused feed() or again()", all(x), before);
            C.due("end() of one more", x.end(length + 1), false);
            C.due("assemble()", x.assemble(), 0);
            C.due("words", Check.words(x), "C1C0 8000");
        }
    }

    private static void key() {
        SixteenDesk x = used();
        for (int k = x.count(4); k < 100; k++) {
            x.key(k);
        }
        String before = all(x);
        C.due("key() when 100 wait", x.key(1), false);
        C.due("all behind it", all(x), before);
    }

    // What is said: the TAPE is empty, told(0) and told(1) are another.
    private static void assemble() {
        SixteenDesk x = used();
        String before = all(x).replaceFirst("told 1 count (\\S+) told \\d+ ", "told F count $1 told P ");
        x.end(0);
        Check.feed(x, 0, ".ORIG 9\nZ RET\nBR Q\n");
        C.due("assemble() of a FAULT", x.assemble(), 5);
        C.due("told(1)", x.told(1), 17);
        String behind = all(x).replaceFirst("told 5 count (\\S+) told 17 ", "told F count $1 told P ");
        C.due("all behind it", behind, before);
        C.due("the TAPE is empty", x.end(1), false);
    }

    private static void load() {
        SixteenDesk x = new SixteenDesk();
        x.poke(0x3000, 0xF021);
        x.poke(0, 5);
        x.run(1);
        x.key(5);
        x.key(6);
        Check.read(x, Check.KBDR);
        Check.store(x, Check.KBSR, 0x4000);
        Check.feed(x, 0, TAPE);
        String before = all(x);
        C.due("load() when nothing was assembled", x.load(), false);
        C.due("all behind it", all(x), before);
        C.due("assemble()", x.assemble(), 0);
    }
}
