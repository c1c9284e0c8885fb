/** The edges of promise 16, hand. */
public final class HandEdgesTest {
    public static void main(String[] args) {
        Edges edges = new Edges("Promise 16");
        edges.at("at 0 of a new object", HandEdgesTest::ofANewObject);
        edges.at("at each of 32, and at the first behind the last", HandEdgesTest::each);
        edges.at("at 0 always, of one frame", HandEdgesTest::oneFrame);
        edges.at("where it was, when the page is there", HandEdgesTest::pageIsThere);
        edges.at("where it was, when fetch is refused", HandEdgesTest::refused);
        edges.at("where it was, whatever else is called", HandEdgesTest::otherCalls);
        edges.at("leaves all as it was", HandEdgesTest::leavesAll);
        edges.end();
    }

    private static void ofANewObject(Due due) {
        int[] counts = {1, 2, 32};
        for (int frames : counts) {
            due.is("hand() of " + frames, new FramePool(frames, 5, 1).hand(), 0);
        }
    }

    private static void each(Due due) {
        FramePool pool = new FramePool(32, 200, 1);
        for (int page = 0; page < 32; page++) {
            due.is("hand() before page " + page, pool.hand(), page);
            pool.fetch(page);
        }
        due.is("hand() behind the last", pool.hand(), 0);
    }

    private static void oneFrame(Due due) {
        FramePool pool = new FramePool(1, 5, 1);
        for (int page = 0; page < 5; page++) {
            pool.fetch(page);
            due.is("hand()", pool.hand(), 0);
            pool.unpin(0);
        }
    }

    private static void pageIsThere(Due due) {
        FramePool pool = new FramePool(3, 5, 1);
        pool.fetch(4);
        pool.fetch(4);
        pool.unpin(0);
        pool.fetch(4);
        due.is("hand()", pool.hand(), 1);
    }

    private static void refused(Due due) {
        FramePool pool = Pools.pinned(3, 5, 1);
        pool.unpin(0);
        pool.fetch(4);
        due.is("hand() before", pool.hand(), 1);
        pool.fetch(3);
        due.is("hand() after ALL_PINNED", pool.hand(), 1);
        pool.fetch(5);
        due.is("hand() after BAD_PAGE", pool.hand(), 1);
    }

    private static void otherCalls(Due due) {
        FramePool pool = new FramePool(3, 5, 1);
        pool.fetch(4);
        pool.writeWord(0, 0, 5);
        pool.readWord(0, 0);
        pool.copy(4, 3);
        pool.flush(4);
        pool.flushAll();
        pool.diskWord(4, 0);
        pool.told(0, 0);
        pool.hand();
        pool.unpin(0);
        pool.drop(4);
        due.is("hand()", pool.hand(), 1);
    }

    private static void leavesAll(Due due) {
        FramePool pool = Pools.mixed();
        pool.hand();
        pool.hand();
        Pools.stillMixed(due, pool);
    }
}
