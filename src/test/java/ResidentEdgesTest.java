/** The edges of promise 12, resident. */
public final class ResidentEdgesTest {
    public static void main(String[] args) {
        Edges edges = new Edges("Promise 12");
        edges.at("in a frame: with and without pins", ResidentEdgesTest::withAndWithoutPins);
        edges.at("in a frame: the first and the last of 32", ResidentEdgesTest::firstAndLastFrame);
        edges.at("in a frame: the first and the last page", ResidentEdgesTest::firstAndLastPage);
        edges.at("in no frame: all are empty", ResidentEdgesTest::allEmpty);
        edges.at("in no frame: it went", ResidentEdgesTest::went);
        edges.at("in no frame: it was dropped", ResidentEdgesTest::dropped);
        edges.at("in no frame: its fetch was refused", ResidentEdgesTest::refusedFetch);
        edges.at("in no frame: no such page", ResidentEdgesTest::noSuchPage);
        edges.at("leaves all as it was", ResidentEdgesTest::leavesAll);
        edges.end();
    }

    private static void withAndWithoutPins(Due due) {
        FramePool pool = Pools.pinned(2, 5, 1);
        due.is("resident(1) with a pin", pool.resident(1), true);
        pool.unpin(1);
        due.is("resident(1) without pins", pool.resident(1), true);
        due.is("resident(2)", pool.resident(2), false);
    }

    private static void firstAndLastFrame(Due due) {
        FramePool pool = Pools.pinned(32, 200, 1);
        due.is("resident(0)", pool.resident(0), true);
        due.is("resident(31)", pool.resident(31), true);
        due.is("resident(32)", pool.resident(32), false);
    }

    private static void firstAndLastPage(Due due) {
        FramePool pool = new FramePool(2, 200, 1);
        pool.fetch(199);
        due.is("resident(199)", pool.resident(199), true);
        due.is("resident(0), not yet", pool.resident(0), false);
        pool.fetch(0);
        due.is("resident(0)", pool.resident(0), true);
        due.is("resident(198)", pool.resident(198), false);
        due.is("resident(1)", pool.resident(1), false);
    }

    private static void allEmpty(Due due) {
        FramePool pool = new FramePool(2, 5, 1);
        for (int page = 0; page < 5; page++) {
            due.is("resident(" + page + ")", pool.resident(page), false);
        }
    }

    private static void went(Due due) {
        FramePool pool = Pools.resting(1, 5, 1);
        pool.fetch(4);
        due.is("resident(0)", pool.resident(0), false);
        due.is("resident(4)", pool.resident(4), true);
    }

    private static void dropped(Due due) {
        FramePool pool = Pools.resting(2, 5, 1);
        pool.drop(1);
        due.is("resident(1)", pool.resident(1), false);
        due.is("resident(0)", pool.resident(0), true);
    }

    private static void refusedFetch(Due due) {
        FramePool pool = Pools.pinned(2, 5, 1);
        pool.fetch(4);
        due.is("resident(4)", pool.resident(4), false);
    }

    // With an empty frame and with none: an empty one's page is told as -1, yet there is no page -1.
    private static void noSuchPage(Due due) {
        FramePool pool = Pools.pinned(2, 5, 1);
        FramePool empty = new FramePool(2, 5, 1);
        for (int page : Pools.outside(5)) {
            due.is("resident(" + page + ") of 5", pool.resident(page), false);
            due.is("resident(" + page + ") of 5 when new", empty.resident(page), false);
        }
    }

    private static void leavesAll(Due due) {
        FramePool pool = Pools.mixed();
        for (int page = -1; page <= 5; page++) {
            pool.resident(page);
        }
        Pools.stillMixed(due, pool);
    }
}
