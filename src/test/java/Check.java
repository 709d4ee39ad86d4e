import java.nio.charset.StandardCharsets;

/** Counts the answers that are not as due, and has what most tests need of a desk. */
final class Check {
    private final String test;
    private int wrong;
    private int asked;

    Check(String test) {
        this.test = test;
    }

    void due(String call, long got, long want) {
        asked++;
        if (got != want) {
            wrong++;
            System.out.println(test + ": " + call + " answered " + got + ", due is " + want);
        }
    }

    void due(String call, boolean got, boolean want) {
        due(call, got ? 1 : 0, want ? 1 : 0);
    }

    void due(String call, String got, String want) {
        asked++;
        if (!got.equals(want)) {
            wrong++;
            System.out.println(test + ": " + call + " answered " + got + ", due is " + want);
        }
    }

    void dueThrow(String call, Class<? extends RuntimeException> want, Runnable body) {
        String got = "nothing";
        try {
            body.run();
        } catch (RuntimeException e) {
            got = e.getClass().getName();
        }
        due(call + " throws", got, want.getName());
    }

    /** Ends the test, with exit code 1 if an answer was wrong. */
    void finish() {
        System.out.println(test + ": " + asked + " answers, " + wrong + " wrong");
        if (wrong != 0 || asked == 0) {
            System.exit(1);
        }
    }

    /** Puts a text (characters 0 to 255) behind the TAPE of length before. */
    static void feed(SixteenDesk x, int before, String text) {
        byte[] bytes = text.getBytes(StandardCharsets.ISO_8859_1);
        for (int i = 0; i < bytes.length; i += 20) {
            int[] five = new int[5];
            for (int j = 0; j < 20; j++) {
                int b = i + j < bytes.length ? bytes[i + j] & 255 : 0;
                five[j / 4] = five[j / 4] << 8 | b;
            }
            x.feed(five[0], five[1], five[2], five[3], five[4]);
        }
        x.end(before + bytes.length);
    }

    static int assemble(SixteenDesk x, String text) {
        feed(x, 0, text);
        return x.assemble();
    }

    /** A desk with a program loaded, ready to run. */
    static SixteenDesk loaded(String text) {
        SixteenDesk x = new SixteenDesk();
        if (assemble(x, text) != 0) {
            throw new IllegalStateException("the test's own text has FAULT " + x.told(0) + " at " + x.told(1) + ": " + text);
        }
        x.load();
        return x;
    }

    static String words(SixteenDesk x) {
        StringBuilder all = new StringBuilder();
        for (int i = 0; i < x.told(2); i++) {
            all.append(i == 0 ? "" : " ").append(String.format("%04X", x.word(i)));
        }
        return all.toString();
    }

    static String labels(SixteenDesk x) {
        StringBuilder all = new StringBuilder();
        for (int i = 0; i < x.told(4); i++) {
            all.append(i == 0 ? "" : " ").append(x.label(i));
        }
        return all.toString();
    }

    static String printed(SixteenDesk x) {
        StringBuilder all = new StringBuilder();
        for (int i = 0; i < x.printed() && x.print(i) != SixteenDesk.NONE; i++) {
            all.append((char) x.print(i));
        }
        return all.toString();
    }

    static String line(SixteenDesk x, int place) {
        StringBuilder all = new StringBuilder();
        int length = x.write(place);
        for (int i = 0; i < length; i++) {
            all.append((char) x.written(i));
        }
        return all.toString();
    }

    /** R0 to R7, PC, PSR, SUPER, USER, in hexadecimals. */
    static String registers(SixteenDesk x) {
        StringBuilder all = new StringBuilder();
        for (int r = 0; r < 12; r++) {
            all.append(r == 0 ? "" : " ").append(String.format("%X", x.register(r)));
        }
        return all.toString();
    }
}
