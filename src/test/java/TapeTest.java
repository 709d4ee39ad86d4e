/** Promises 2 (feed), 3 (end) and 18 (again): how the TAPE grows and is cut. */
public final class TapeTest {
    public static void main(String[] args) {
        Check c = new Check("TapeTest");
        feedAndEnd(c);
        full(c);
        order(c);
        againAndRoom(c);
        c.finish();
    }

    private static void feedAndEnd(Check c) {
        SixteenDesk x = new SixteenDesk();
        c.due("feed", x.feed(1, 2, 3, 4, 5), 20);
        c.due("feed", x.feed(-1, -2, -3, -4, -5), 40);
        c.due("end(41)", x.end(41), false);
        c.due("end(-1)", x.end(-1), false);
        c.due("end(MIN)", x.end(Integer.MIN_VALUE), false);
        c.due("end(MAX)", x.end(Integer.MAX_VALUE), false);
        c.due("end(40)", x.end(40), true);
        c.due("end(7)", x.end(7), true);
        c.due("end(8)", x.end(8), false);
        c.due("feed behind 7", x.feed(0, 0, 0, 0, 0), 27);
        c.due("end(0)", x.end(0), true);
        c.due("feed behind 0", x.feed(0, 0, 0, 0, 0), 20);
    }

    private static void full(Check c) {
        SixteenDesk x = new SixteenDesk();
        for (int n = 20; n <= 4000; n += 20) {
            c.due("feed", x.feed(0, 0, 0, 0, 0), n);
        }
        c.due("feed beyond", x.feed(0, 0, 0, 0, 0), -1);
        c.due("end(4001)", x.end(4001), false);
        c.due("end(3981)", x.end(3981), true);
        c.due("feed to 4001", x.feed(0, 0, 0, 0, 0), -1);
        c.due("end(3980)", x.end(3980), true);
        c.due("feed to 4000", x.feed(0, 0, 0, 0, 0), 4000);
    }

    // ".OR" "IG 7" "\nHAL" ..: the highest byte of each number first, the numbers in order.
    private static void order(Check c) {
        SixteenDesk x = new SixteenDesk();
        x.feed(0x2E4F5249, 0x4720370A, 0x48414C54, 0x0A2E4649, 0x4C4C2039);
        c.due("assemble()", x.assemble(), 0);
        c.due("words", Check.words(x), "F025 0009");
        c.due("told(3)", x.told(3), 7);
        c.due("the TAPE is empty then", x.end(1), false);
        Check.feed(x, 0, "BAD");
        c.due("assemble()", x.assemble(), 1);
        c.due("the TAPE is empty behind a FAULT", x.end(1), false);
    }

    private static void againAndRoom(Check c) {
        SixteenDesk x = new SixteenDesk();
        c.due("again() ahead of any write(): an empty LINE", x.again(), 1);
        x.end(0);
        x.poke(0, 0xF025);
        x.write(0);
        Check.feed(x, 0, ".ORIG 9\n");
        c.due("again()", x.again(), 13);
        c.due("again()", x.again(), 18);
        c.due("assemble()", x.assemble(), 0);
        c.due("words", Check.words(x), "F025 F025");
        for (int n = 0; n < 200; n++) {
            x.feed(0, 0, 0, 0, 0);
        }
        x.end(3996);
        c.due("again() to 4001", x.again(), -1);
        c.due("nothing came", x.end(3997), false);
        x.end(3995);
        c.due("again() to 4000", x.again(), 4000);
        c.due("again() beyond", x.again(), -1);
    }
}
