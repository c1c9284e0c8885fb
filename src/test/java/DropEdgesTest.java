/** The edges of promise 9, drop. */
public final class DropEdgesTest {
    public static void main(String[] args) {
        Edges edges = new Edges("Promise 9");
        edges.at("The frame of a page without pins is empty then", DropEdgesTest::emptyThen);
        edges.at("The frame of a page is empty then: the first and the last of 32",
            DropEdgesTest::firstAndLast);
        edges.at("The frame of a page is empty then: no other frame", DropEdgesTest::noOtherFrame);
        edges.at("whatever was written into it since it was read", DropEdgesTest::sinceItWasRead);
        edges.at("whatever was written into it since it was written to the disk",
            DropEdgesTest::sinceItWasWritten);
        edges.at("whatever was copied into it", DropEdgesTest::copiedInto);
        edges.at("dirty it is dropped without a WRITE", DropEdgesTest::noWrite);
        edges.at("False when no frame has it", DropEdgesTest::noFrameHasIt);
        edges.at("False when no frame has it: dropped before", DropEdgesTest::droppedBefore);
        edges.at("False when no frame has it: no such page", DropEdgesTest::noSuchPage);
        edges.at("False when it has pins: one", DropEdgesTest::onePin);
        edges.at("False when it has pins: two, until none is left", DropEdgesTest::twoPins);
        edges.at("False leaves all as it was", DropEdgesTest::leavesAll);
        edges.end();
    }

    private static void emptyThen(Due due) {
        FramePool pool = Pools.written(2, 5, 2);
        pool.unpin(1);
        due.is("drop(1)", pool.drop(1), true);
        due.emptyFrame("dropped", pool, 1);
        due.is("resident(1)", pool.resident(1), false);
        due.is("hand()", pool.hand(), 0);
    }

    private static void firstAndLast(Due due) {
        FramePool pool = Pools.resting(32, 200, 1);
        due.is("drop(0)", pool.drop(0), true);
        due.is("drop(31)", pool.drop(31), true);
        due.emptyFrame("the first", pool, 0);
        due.emptyFrame("the last", pool, 31);
    }

    private static void noOtherFrame(Due due) {
        FramePool pool = Pools.written(3, 5, 1);
        for (int f = 0; f < 3; f++) {
            pool.unpin(f);
        }
        pool.drop(1);
        due.frame("before it", pool, 0, 0, 0, 1, 1);
        due.frame("behind it", pool, 2, 2, 0, 1, 1);
    }

    private static void sinceItWasRead(Due due) {
        FramePool pool = Pools.written(1, 5, 2);
        pool.unpin(0);
        due.is("drop(0)", pool.drop(0), true);
        due.is("diskWord(0, 0)", pool.diskWord(0, 0), 0);
        due.is("diskWord(0, 1)", pool.diskWord(0, 1), 0);
        pool.fetch(0);
        due.is("readWord(0, 0)", pool.readWord(0, 0), 0);
        due.is("readWord(0, 1)", pool.readWord(0, 1), 0);
    }

    private static void sinceItWasWritten(Due due) {
        FramePool pool = Pools.written(1, 5, 2);
        pool.flush(0);
        pool.writeWord(0, 1, 7);
        pool.unpin(0);
        due.is("drop(0)", pool.drop(0), true);
        due.is("diskWord(0, 1)", pool.diskWord(0, 1), Pools.word(0, 1));
        pool.fetch(0);
        due.is("readWord(0, 0)", pool.readWord(0, 0), Pools.word(0, 0));
        due.is("readWord(0, 1)", pool.readWord(0, 1), Pools.word(0, 1));
    }

    private static void copiedInto(Due due) {
        FramePool pool = Pools.written(2, 5, 2);
        pool.flush(1);
        pool.copy(1, 0);
        pool.unpin(1);
        due.is("drop(1)", pool.drop(1), true);
        pool.fetch(1);
        due.is("readWord(1, 0)", pool.readWord(1, 0), Pools.word(1, 0));
        due.is("diskWord(1, 1)", pool.diskWord(1, 1), Pools.word(1, 1));
    }

    private static void noWrite(Due due) {
        FramePool pool = Pools.written(2, 5, 2);
        pool.unpin(1);
        pool.drop(1);
        due.is("diskWrites()", pool.diskWrites(), 0);
        due.is("diskReads()", pool.diskReads(), 2);
    }

    private static void noFrameHasIt(Due due) {
        FramePool pool = Pools.resting(2, 5, 1);
        due.is("drop(2)", pool.drop(2), false);
        due.is("drop(4)", pool.drop(4), false);
        due.is("drop(0) when new", new FramePool(2, 5, 1).drop(0), false);
    }

    private static void droppedBefore(Due due) {
        FramePool pool = Pools.resting(2, 5, 1);
        due.is("drop(1)", pool.drop(1), true);
        due.is("drop(1) again", pool.drop(1), false);
    }

    private static void noSuchPage(Due due) {
        FramePool pool = Pools.resting(2, 5, 1);
        FramePool empty = new FramePool(2, 5, 1);
        for (int page : Pools.outside(5)) {
            due.is("drop(" + page + ") of 5", pool.drop(page), false);
            due.is("drop(" + page + ") of 5 when new", empty.drop(page), false);
        }
    }

    private static void onePin(Due due) {
        FramePool pool = Pools.written(2, 5, 1);
        due.is("drop(1)", pool.drop(1), false);
        due.frame("still there", pool, 1, 1, 1, 1, 1);
        due.is("readWord(1, 0)", pool.readWord(1, 0), Pools.word(1, 0));
    }

    private static void twoPins(Due due) {
        FramePool pool = Pools.pinned(2, 5, 1);
        pool.fetch(1);
        due.is("drop(1) with two", pool.drop(1), false);
        pool.unpin(1);
        due.is("drop(1) with one", pool.drop(1), false);
        pool.unpin(1);
        due.is("drop(1) with none", pool.drop(1), true);
    }

    private static void leavesAll(Due due) {
        FramePool pool = Pools.written(3, 5, 2);
        pool.unpin(1);
        pool.unpin(2);
        pool.drop(2);
        String before = Pools.state(pool, 3, 5, 2);
        pool.drop(0);
        pool.drop(2);
        for (int page : Pools.outside(5)) {
            pool.drop(page);
        }
        due.is("the state", Pools.state(pool, 3, 5, 2), before);
    }
}
