import java.nio.charset.StandardCharsets;

/** Counts the answers that are not as due, and has what most tests need of a desk. */
final class Check {
    static final int KBSR = 65024;
    static final int KBDR = 65026;
    static final int DSR = 65028;
    static final int DDR = 65030;
    static final int MCR = 65534;
    /** PSR of users, and of a SUPERVISOR whom no key interrupts. */
    static final int USERS = 0x8002;
    static final int SUPERVISORS = 0x0702;

    private final String test;
    private final Document document = Document.read();
    private String sentence = "";
    private int askedOfSentence = 1;
    private int sentences;
    private int wrong;
    private int asked;

    Check(String test) {
        this.test = test;
    }

    /**
     * What is asked from here on holds this sentence of the document. The words are the document's own, under the heading
     * that is told: others are wrong, and so is a sentence of which nothing is asked.
     */
    void sentence(String where, String words) {
        endSentence();
        sentences++;
        sentence = ", " + where + " '" + words + "'";
        askedOfSentence = 0;
        if (document != null && !document.has(where, words)) {
            tellWrong("the document has no such words there");
        }
    }

    private void endSentence() {
        if (askedOfSentence == 0) {
            tellWrong("nothing was asked");
        }
    }

    private void tellWrong(String what) {
        wrong++;
        System.out.println(test + sentence + ": " + what);
    }

    private void tell(String call, boolean right, Object got, Object want) {
        asked++;
        askedOfSentence++;
        if (!right) {
            tellWrong(call + " answered " + got + ", due is " + want);
        }
    }

    void due(String call, long got, long want) {
        tell(call, got == want, got, want);
    }

    void due(String call, boolean got, boolean want) {
        tell(call, got == want, got, want);
    }

    void due(String call, String got, String want) {
        tell(call, got.equals(want), got, want);
    }

    void dueThrow(String call, Class<? extends RuntimeException> want, Runnable body) {
        String got = "nothing";
        try {
            body.run();
        } catch (RuntimeException e) {
            got = e.getClass().getName();
        }
        due(call + " throws", got, want.getName());
    }

    /** A text that is assembled without a FAULT, to these words. */
    void dueWords(String text, String want) {
        SixteenDesk x = new SixteenDesk();
        int fault = assemble(x, text);
        due("FAULT of " + text, fault, 0);
        due("told(0) of " + text, x.told(0), 0);
        due("told(1) of " + text, x.told(1), -1);
        if (fault == 0) {
            due("words of " + text, words(x), want);
        }
    }

    /** A text that has a FAULT; in it a bar stands ahead of the place that is due. */
    void dueFault(int want, String marked) {
        int place = marked.indexOf('|');
        dueFault(want, place, marked.substring(0, place) + marked.substring(place + 1));
    }

    void dueFault(int want, int place, String text) {
        SixteenDesk x = new SixteenDesk();
        due("assemble() of " + text, assemble(x, text), want);
        due("told(0) of " + text, x.told(0), want);
        due("told(1) of " + text, x.told(1), place);
        due("load() of " + text, x.load(), false);
    }

    /** Ends the test, with exit code 1 if an answer was wrong. */
    void finish() {
        endSentence();
        if (sentences > 0 && document == null) {
            System.out.println(test + ": the document is not there, its words were not looked for");
        }
        System.out.println(test + ": " + asked + " answers, " + wrong + " wrong" + (sentences > 0 ? ", " + sentences + " sentences" : ""));
        if (wrong != 0 || asked == 0) {
            System.exit(1);
        }
    }

    /** Puts a text (characters 0 to 255) behind the TAPE of length before. */
    static void feed(SixteenDesk x, int before, String text) {
        byte[] bytes = text.getBytes(StandardCharsets.ISO_8859_1);
        for (int i = 0; i < bytes.length; i += 20) {
            int[] five = new int[5];
            for (int j = 0; j < 20; j++) {
                int b = i + j < bytes.length ? bytes[i + j] & 255 : 0;
                five[j / 4] = five[j / 4] << 8 | b;
            }
            x.feed(five[0], five[1], five[2], five[3], five[4]);
        }
        x.end(before + bytes.length);
    }

    static int assemble(SixteenDesk x, String text) {
        feed(x, 0, text);
        return x.assemble();
    }

    /** A desk with a program loaded, ready to run. */
    static SixteenDesk loaded(String text) {
        SixteenDesk x = new SixteenDesk();
        if (assemble(x, text) != 0) {
            throw new IllegalStateException("the test's own text has FAULT " + x.told(0) + " at " + x.told(1) + ": " + text);
        }
        x.load();
        return x;
    }

    /** A desk that has 4,200 words from x4000 on, all the same, R0 at them, and PC at these LINES. */
    static SixteenDesk longText(int word, String lines) {
        SixteenDesk x = loaded(".ORIG x3000\nLD R0,A\nLD R1,N\nLD R2,V\nL STR R2,R0,#0\nADD R0,R0,#1\nADD R1,R1,#-1\nBRP L\nLD R0,A\n"
            + lines + "\nA .FILL x4000\nN .FILL 4200\nV .FILL " + word);
        x.run(3 + 4 * 4200 + 1);
        return x;
    }

    /** A text that tells the LABELS L0, L1 and so on, a LINE each. */
    static String manyLabels(int n) {
        StringBuilder all = new StringBuilder(".ORIG x3000\n");
        for (int i = 0; i < n; i++) {
            all.append('L').append(i).append('\n');
        }
        return all.toString();
    }

    /** A desk with its PC at a place, and these words from there on. */
    static SixteenDesk desk(int psr, int pc, int... words) {
        SixteenDesk x = new SixteenDesk();
        x.set(9, psr);
        x.set(8, pc);
        for (int i = 0; i < words.length; i++) {
            x.poke(pc + i, words[i]);
        }
        return x;
    }

    /** What the machine READS at a place (LDI R1), as a SUPERVISOR; R1, PC, PSR and the words x200, x210 change. */
    static int read(SixteenDesk x, int place) {
        indirect(x, 0xA20F, place);
        return x.register(1);
    }

    /** The machine WRITES a WORD at a place (STI R1), likewise. */
    static void store(SixteenDesk x, int place, int v) {
        x.set(1, v);
        indirect(x, 0xB20F, place);
    }

    /** Readies the machine to READ a place with every second STEP (LDI R1, BR back), so that many READS take few calls. */
    static void readyToRead(SixteenDesk x, int place) {
        x.set(9, SUPERVISORS);
        x.set(8, 0x200);
        x.poke(0x200, 0xA20F);
        x.poke(0x201, 0x0FFE);
        x.poke(0x210, place);
    }

    private static void indirect(SixteenDesk x, int word, int place) {
        x.set(9, SUPERVISORS);
        x.set(8, 0x200);
        x.poke(0x200, word);
        x.poke(0x210, place);
        x.run(1);
    }

    static String words(SixteenDesk x) {
        StringBuilder all = new StringBuilder();
        for (int i = 0; i < x.told(2); i++) {
            all.append(i == 0 ? "" : " ").append(String.format("%04X", x.word(i)));
        }
        return all.toString();
    }

    static String labels(SixteenDesk x) {
        StringBuilder all = new StringBuilder();
        for (int i = 0; i < x.told(4); i++) {
            all.append(i == 0 ? "" : " ").append(x.label(i));
        }
        return all.toString();
    }

    /** The bytes that were PRINTED, in decimals. */
    static String bytes(SixteenDesk x) {
        StringBuilder all = new StringBuilder();
        int printed = x.printed();
        for (int i = 0; i < printed; i++) {
            all.append(i == 0 ? "" : " ").append(x.print(i));
        }
        return all.toString();
    }

    static String printed(SixteenDesk x) {
        StringBuilder all = new StringBuilder();
        for (int i = 0; i < x.printed() && x.print(i) != SixteenDesk.NONE; i++) {
            all.append((char) x.print(i));
        }
        return all.toString();
    }

    static String line(SixteenDesk x, int place) {
        StringBuilder all = new StringBuilder();
        int length = x.write(place);
        for (int i = 0; i < length; i++) {
            all.append((char) x.written(i));
        }
        return all.toString();
    }

    /** R0 to R7, PC, PSR, SUPER, USER, in hexadecimals. */
    static String registers(SixteenDesk x) {
        StringBuilder all = new StringBuilder();
        for (int r = 0; r < 12; r++) {
            all.append(r == 0 ? "" : " ").append(String.format("%X", x.register(r)));
        }
        return all.toString();
    }
}
