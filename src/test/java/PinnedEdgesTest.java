/** The edges of promise 17, pinned. */
public final class PinnedEdgesTest {
    public static void main(String[] args) {
        Edges edges = new Edges("Promise 17");
        edges.at("none: all are empty", PinnedEdgesTest::allEmpty);
        edges.at("none: all are without pins", PinnedEdgesTest::allResting);
        edges.at("one to all 32", PinnedEdgesTest::oneToAll);
        edges.at("frames, not pins", PinnedEdgesTest::framesNotPins);
        edges.at("one less with its last pin", PinnedEdgesTest::lastPin);
        edges.at("the first frame or the last alone", PinnedEdgesTest::firstOrLast);
        edges.at("as before, when a call is refused", PinnedEdgesTest::refused);
        edges.at("a found frame's old pins do not count", PinnedEdgesTest::found);
        edges.at("leaves all as it was", PinnedEdgesTest::leavesAll);
        edges.end();
    }

    private static void allEmpty(Due due) {
        due.is("pinned() of 1", new FramePool(1, 5, 1).pinned(), 0);
        due.is("pinned() of 32", new FramePool(32, 5, 1).pinned(), 0);
    }

    private static void allResting(Due due) {
        due.is("pinned()", Pools.resting(3, 5, 1).pinned(), 0);
    }

    private static void oneToAll(Due due) {
        FramePool pool = new FramePool(32, 200, 1);
        for (int count = 1; count <= 32; count++) {
            pool.fetch(count);
            due.is("pinned()", pool.pinned(), count);
        }
        for (int f = 0; f < 32; f++) {
            pool.unpin(f);
            due.is("pinned()", pool.pinned(), 31 - f);
        }
    }

    private static void framesNotPins(Due due) {
        FramePool pool = new FramePool(3, 5, 1);
        for (int pins = 1; pins <= 5; pins++) {
            pool.fetch(4);
            due.is("pinned() with " + pins + " pins", pool.pinned(), 1);
        }
    }

    private static void lastPin(Due due) {
        FramePool pool = Pools.pinned(3, 5, 1);
        pool.fetch(1);
        pool.unpin(1);
        due.is("pinned() with a pin left", pool.pinned(), 3);
        pool.unpin(1);
        due.is("pinned() with none", pool.pinned(), 2);
    }

    private static void firstOrLast(Due due) {
        FramePool pool = Pools.resting(3, 5, 1);
        pool.fetch(0);
        due.is("pinned(), the first", pool.pinned(), 1);
        pool.unpin(0);
        pool.fetch(2);
        due.is("pinned(), the last", pool.pinned(), 1);
    }

    private static void refused(Due due) {
        FramePool pool = Pools.pinned(3, 5, 1);
        pool.fetch(4);
        pool.fetch(5);
        due.is("pinned() after refused fetches", pool.pinned(), 3);
        pool.unpin(1);
        pool.unpin(1);
        pool.unpin(3);
        pool.unpin(-1);
        due.is("pinned() after refused unpins", pool.pinned(), 2);
        pool.drop(0);
        due.is("pinned() after a refused drop", pool.pinned(), 2);
    }

    private static void found(Due due) {
        FramePool pool = new FramePool(1, 5, 1);
        pool.fetch(3);
        pool.fetch(3);
        pool.unpin(0);
        pool.unpin(0);
        pool.fetch(4);
        due.is("pinned()", pool.pinned(), 1);
        due.is("unpin(0)", pool.unpin(0), 0);
        due.is("pinned() then", pool.pinned(), 0);
    }

    private static void leavesAll(Due due) {
        FramePool pool = Pools.mixed();
        pool.pinned();
        pool.pinned();
        Pools.stillMixed(due, pool);
    }
}
