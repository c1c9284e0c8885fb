/** The example of README.md, call by call, with the answers that it names. */
public final class ExampleTest {
    public static void main(String[] args) {
        Due due = new Due("ExampleTest");
        FramePool pool = new FramePool(4, 100, 8);
        int f = pool.fetch(17);
        due.is("fetch(17)", f, 0);
        due.is("writeWord(f, 0, 42)", pool.writeWord(f, 0, 42), 0);
        due.is("readWord(f, 0)", pool.readWord(f, 0), 42);
        due.is("diskWord(17, 0)", pool.diskWord(17, 0), 0);
        due.is("unpin(f)", pool.unpin(f), 0);
        due.is("flushAll()", pool.flushAll(), 1);
        due.is("diskWord(17, 0)", pool.diskWord(17, 0), 42);
        due.is("drop(17)", pool.drop(17), true);
        due.is("resident(17)", pool.resident(17), false);
        due.is("fetch(100)", pool.fetch(100), FramePool.BAD_PAGE);
        due.end();
    }
}
