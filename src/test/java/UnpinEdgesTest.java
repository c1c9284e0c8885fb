/** The edges of promise 4, unpin. */
public final class UnpinEdgesTest {
    public static void main(String[] args) {
        Edges edges = new Edges("Promise 4");
        edges.at("one pin less: how many are left", UnpinEdgesTest::howManyAreLeft);
        edges.at("one pin less: the last one", UnpinEdgesTest::lastPin);
        edges.at("one pin less: the first frame and the last of 32", UnpinEdgesTest::firstAndLast);
        edges.at("one pin less: no other frame's", UnpinEdgesTest::noOtherFrame);
        edges.at("one pin less: page, dirt, mark and words stay", UnpinEdgesTest::restStays);
        edges.at("NOT_PINNED when there is none such", UnpinEdgesTest::noSuchFrame);
        edges.at("NOT_PINNED when it has none: its page is there", UnpinEdgesTest::noPins);
        edges.at("NOT_PINNED when it has none: it is empty", UnpinEdgesTest::emptyFrame);
        edges.at("NOT_PINNED leaves all as it was", UnpinEdgesTest::leavesAll);
        edges.end();
    }

    private static void howManyAreLeft(Due due) {
        FramePool pool = new FramePool(2, 5, 1);
        for (int pins = 0; pins < 20; pins++) {
            pool.fetch(3);
        }
        for (int left = 19; left >= 0; left--) {
            due.is("unpin(0)", pool.unpin(0), left);
            due.is("told(0, 1)", pool.told(0, 1), left);
        }
    }

    private static void lastPin(Due due) {
        FramePool pool = Pools.pinned(2, 5, 1);
        due.is("unpin(1)", pool.unpin(1), 0);
        due.is("told(1, 1)", pool.told(1, 1), 0);
        due.is("fetch(4): it may go", pool.fetch(4), 1);
    }

    private static void firstAndLast(Due due) {
        FramePool pool = Pools.pinned(32, 200, 1);
        due.is("unpin(0)", pool.unpin(0), 0);
        due.is("unpin(31)", pool.unpin(31), 0);
        due.is("unpin(32)", pool.unpin(32), FramePool.NOT_PINNED);
    }

    private static void noOtherFrame(Due due) {
        FramePool pool = Pools.pinned(3, 5, 1);
        pool.unpin(1);
        due.is("told(0, 1)", pool.told(0, 1), 1);
        due.is("told(1, 1)", pool.told(1, 1), 0);
        due.is("told(2, 1)", pool.told(2, 1), 1);
    }

    private static void restStays(Due due) {
        FramePool pool = Pools.written(2, 5, 2);
        pool.unpin(1);
        due.frame("without pins", pool, 1, 1, 0, 1, 1);
        due.is("resident(1)", pool.resident(1), true);
        due.is("diskWrites()", pool.diskWrites(), 0);
        due.is("hand()", pool.hand(), 0);
        pool.fetch(1);
        due.is("readWord(1, 1)", pool.readWord(1, 1), Pools.word(1, 1));
    }

    private static void noSuchFrame(Due due) {
        FramePool pool = Pools.pinned(3, 5, 1);
        for (int f : Pools.outside(3)) {
            due.is("unpin(" + f + ") of 3", pool.unpin(f), FramePool.NOT_PINNED);
        }
        due.is("pinned()", pool.pinned(), 3);
    }

    private static void noPins(Due due) {
        FramePool pool = Pools.resting(3, 5, 1);
        for (int f = 0; f < 3; f++) {
            due.is("unpin(" + f + ")", pool.unpin(f), FramePool.NOT_PINNED);
            due.is("unpin(" + f + ") again", pool.unpin(f), FramePool.NOT_PINNED);
        }
        due.is("fetch(1)", pool.fetch(1), 1);
        due.is("unpin(1): one pin, not less", pool.unpin(1), 0);
    }

    private static void emptyFrame(Due due) {
        FramePool pool = new FramePool(3, 5, 1);
        due.is("unpin(0) when new", pool.unpin(0), FramePool.NOT_PINNED);
        pool.fetch(3);
        due.is("unpin(1)", pool.unpin(1), FramePool.NOT_PINNED);
        pool.unpin(0);
        pool.drop(3);
        due.is("unpin(0) after drop", pool.unpin(0), FramePool.NOT_PINNED);
    }

    private static void leavesAll(Due due) {
        FramePool pool = Pools.written(3, 5, 2);
        pool.unpin(1);
        pool.unpin(2);
        pool.drop(2);
        String before = Pools.state(pool, 3, 5, 2);
        pool.unpin(1);
        pool.unpin(2);
        for (int f : Pools.outside(3)) {
            pool.unpin(f);
        }
        due.is("the state", Pools.state(pool, 3, 5, 2), before);
    }
}
