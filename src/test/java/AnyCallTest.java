import java.util.NoSuchElementException;

/** Any calls in any order: what the document does not name is never thrown, and answers stay in their bounds. */
public final class AnyCallTest {
    private static final int[] EDGES = {
        Integer.MIN_VALUE, Integer.MAX_VALUE, -1, 0, 1, 2, 4, 5, 7, 8, 9, 11, 12, 100, 256, 4000, 4096, 12287, 12288, 20000, 20001,
        65023, 65024, 65026, 65030, 65534, 65535, 65536,
    };
    private static final String LETTERS = " \n\n,;\"\\#-_.AbRrXx0179NZP\r\t!\u0000\u00ff";
    private static final String[] PIECES = {
        ".ORIG ", "x3000\n", "ADD ", "R1,", "BR ", "L", ".FILL ", ".BLKW ", ".STRINGZ ", "\"a\"", "\n", "LD R0,", "#5", "HALT\n", ".END\n", "4096",
    };
    private static long seed = 20261116;

    private static int next(int below) {
        seed = seed * 6364136223846793005L + 1442695040888963407L;
        return (int) ((seed >>> 33) % below);
    }

    private static int any() {
        switch (next(3)) {
            case 0:
                return EDGES[next(EDGES.length)];
            case 1:
                return next(65536);
            default:
                return next(Integer.MAX_VALUE) * 2 + next(2);
        }
    }

    private static String text() {
        StringBuilder all = new StringBuilder(next(8) == 0 ? "" : ".ORIG x3000\n");
        for (int n = next(60); n > 0; n--) {
            all.append(next(4) == 0 ? "" + LETTERS.charAt(next(LETTERS.length())) : PIECES[next(PIECES.length)]);
        }
        return all.toString();
    }

    public static void main(String[] args) {
        Check c = new Check("AnyCallTest");
        for (int run = 0; run < 1500; run++) {
            SixteenDesk x = new SixteenDesk();
            for (int i = 0; i < 300; i++) {
                call(c, x, next(24));
            }
        }
        c.finish();
    }

    private static void call(Check c, SixteenDesk x, int which) {
        String name = "call " + which;
        try {
            answer(c, x, which);
        } catch (NoSuchElementException e) {
            c.due(name + " may throw NoSuchElementException", which >= 4 && which <= 8, true);
        } catch (IllegalArgumentException e) {
            c.due(name + " may throw IllegalArgumentException", which, 9);
        } catch (RuntimeException e) {
            c.due(name + " threw " + e, true, false);
        }
    }

    private static void within(Check c, String call, int got, int least, int most) {
        if (got < least || got > most) {
            c.due(call + " in its bounds", got, least);
        }
    }

    private static void answer(Check c, SixteenDesk x, int which) {
        switch (which) {
            case 0: within(c, "feed", x.feed(any(), any(), any(), any(), any()), -1, 4000); break;
            case 1: x.end(any()); break;
            case 2: Check.feed(x, 0, text()); break;
            case 3: within(c, "assemble", x.assemble(), 0, 6); break;
            case 4: within(c, "told", x.told(any()), -1, 65535); break;
            case 5: within(c, "word", x.word(any()), 0, 65535); break;
            case 6: within(c, "label", x.label(any()), 0, 65536); break;
            case 7: within(c, "register", x.register(any()), 0, 65535); break;
            case 8: within(c, "count", x.count(any()), 0, Integer.MAX_VALUE); break;
            case 9: within(c, "run", x.run(any()), 0, 20000); break;
            case 10: x.load(); break;
            case 11: x.key(any()); break;
            case 12: within(c, "state", x.state(), 0, 2); break;
            case 13: x.set(any(), any()); break;
            case 14: x.set(next(12), any()); break;
            case 15: within(c, "peek", x.peek(any()), 0, 65535); break;
            case 16: x.poke(any(), any()); break;
            case 17: x.poke(x.register(8), any()); break;
            case 18: within(c, "write", x.write(any()), 2, 16); break;
            case 19: within(c, "written", x.written(any()), -1, 126); break;
            case 20: within(c, "again", x.again(), -1, 4000); break;
            case 21: x.printed(); break;
            case 22: within(c, "print", x.print(any()), -1, 255); break;
            default: within(c, "run", x.run(next(50)), 0, 50); break;
        }
    }
}
