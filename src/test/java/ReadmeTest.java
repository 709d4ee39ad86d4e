import java.io.IOException;
import java.nio.charset.StandardCharsets;
import java.nio.file.Files;
import java.nio.file.Path;
import java.util.ArrayList;
import java.util.List;

/** The examples of README.md: they are done here as they stand there, and answer what is said behind them. */
public final class ReadmeTest {
    private static final Check C = new Check("ReadmeTest");

    public static void main(String[] args) throws IOException {
        SixteenDesk desk = firstExample();
        waitingExample(desk);
        answersThatAreTold();
        examplesStandHere();
        C.finish();
    }

    private static SixteenDesk firstExample() {
        SixteenDesk desk = new SixteenDesk();
        desk.feed(0x2E4F5249, 0x47207833, 0x3030300A, 0x48414C54, 0);
        desk.end(16);
        if (desk.assemble() == 0) {
            desk.load();
            desk.run(100);
        }
        desk.write(0x3000);
        C.due("STEPS of the first example", desk.count(0), 1);
        C.due("state() of the first example", desk.state(), 1);
        C.due("WORDS of the first example", Check.words(desk), "F025");
        C.due("LINE of the first example", Check.line(desk, 0x3000), "HALT");
        return desk;
    }

    static void type(SixteenDesk desk, String text) {
        for (int i = 0; i < text.length(); i += 20) {
            int[] five = new int[5];
            for (int j = i; j < i + 20; j++) {
                int letter = j < text.length() ? text.charAt(j) & 255 : 0;
                five[(j - i) / 4] = five[(j - i) / 4] << 8 | letter;
            }
            desk.feed(five[0], five[1], five[2], five[3], five[4]);
        }
        desk.end(text.length());
    }

    private static void waitingExample(SixteenDesk desk) {
        type(desk, ".ORIG x3000\n IN\n ADD R0,R0,#1\n OUT\n HALT\n");
        desk.assemble();
        desk.load();
        desk.run(100);
        desk.key('A');
        desk.run(100);
        desk.printed();
        C.due("STEPS of both examples", desk.count(0), 1 + 1 + 4);
        C.due("bytes that were PRINTED", Check.bytes(desk), "65 66");
    }

    private static void answersThatAreTold() {
        SixteenDesk desk = new SixteenDesk();
        type(desk, ".ORIG x3000\n IN\n ADD R0,R0,#1\n OUT\n HALT\n");
        C.due("assemble()", desk.assemble(), 0);
        C.due("load()", desk.load(), true);
        C.due("run(100) without a key", desk.run(100), 1);
        C.due("state() without a key", desk.state(), 2);
        C.due("key('A')", desk.key('A'), true);
        C.due("state() with a key", desk.state(), 0);
        C.due("run(100) with a key", desk.run(100), 4);
        C.due("printed()", desk.printed(), 2);
    }

    /** The lines of a file without comments and what stands blank; of README.md those of its examples alone. */
    private static List<String> code(String file, boolean examplesAlone) throws IOException {
        List<String> lines = new ArrayList<>();
        boolean taken = !examplesAlone;
        for (String line : Files.readAllLines(Path.of(file), StandardCharsets.UTF_8)) {
            if (examplesAlone && line.startsWith("```")) {
                taken = line.equals("```java");
            } else if (taken) {
                lines.add(line.replaceFirst("//.*", "").trim());
            }
        }
        return lines;
    }

    private static void examplesStandHere() throws IOException {
        List<String> here = code("src/test/java/ReadmeTest.java", false);
        List<String> examples = code("README.md", true);
        C.due("README.md has examples", examples.size() > 20, true);
        int at = 0;
        for (String line : examples) {
            while (at < here.size() && !here.get(at).equals(line)) {
                at++;
            }
            C.due("in this order ReadmeTest has: " + line, at < here.size(), true);
            at++;
        }
    }
}
