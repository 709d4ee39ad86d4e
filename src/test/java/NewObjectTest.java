import java.util.NoSuchElementException;

/** Promise 1: all as told at first. */
public final class NewObjectTest {
    public static void main(String[] args) {
        Check c = new Check("NewObjectTest");
        SixteenDesk x = new SixteenDesk();
        c.due("registers", Check.registers(x), "0 0 0 0 0 0 0 0 3000 8002 3000 FE00");
        c.due("state()", x.state(), 0);
        c.due("told(0)", x.told(0), 0);
        c.due("told(1)", x.told(1), -1);
        for (int what = 2; what <= 4; what++) {
            c.due("told(" + what + ")", x.told(what), 0);
        }
        for (int what = 0; what <= 4; what++) {
            c.due("count(" + what + ")", x.count(what), 0);
        }
        c.due("printed()", x.printed(), 0);
        c.due("print(0)", x.print(0), -1);
        c.due("written(0)", x.written(0), -1);
        c.due("load()", x.load(), false);
        c.due("end(1)", x.end(1), false);
        c.due("end(0)", x.end(0), true);
        c.due("feed", x.feed(0, 0, 0, 0, 0), 20);
        int[] places = {0, 1, 255, 256, 12287, 12288, 65023, 65025, 65027, 65535};
        for (int place : places) {
            c.due("peek(" + place + ")", x.peek(place), 0);
        }
        c.due("peek(KBSR)", x.peek(65024), 0);
        c.due("peek(KBDR)", x.peek(65026), 0);
        c.due("peek(DSR)", x.peek(65028), 32768);
        c.due("peek(DDR)", x.peek(65030), 0);
        c.due("peek(MCR)", x.peek(65534), 32768);
        c.dueThrow("word(0)", NoSuchElementException.class, () -> x.word(0));
        c.dueThrow("label(0)", NoSuchElementException.class, () -> x.label(0));
        SixteenDesk y = new SixteenDesk();
        y.poke(5, 7);
        c.due("another object's peek(5)", new SixteenDesk().peek(5), 0);
        c.finish();
    }
}
