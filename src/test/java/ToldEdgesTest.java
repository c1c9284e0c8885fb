/** The edges of promise 15, told. */
public final class ToldEdgesTest {
    public static void main(String[] args) {
        Edges edges = new Edges("Promise 15");
        edges.at("0 its page: the first and the last", ToldEdgesTest::itsPage);
        edges.at("-1 when it is empty", ToldEdgesTest::noPage);
        edges.at("-1 when it is empty: its page was dropped", ToldEdgesTest::droppedPage);
        edges.at("1 its pins: none, one, many", ToldEdgesTest::itsPins);
        edges.at("2 1 if it is dirty, otherwise 0", ToldEdgesTest::dirty);
        edges.at("3 1 if it has a mark, otherwise 0", ToldEdgesTest::mark);
        edges.at("pins, dirt and mark of an empty one are 0", ToldEdgesTest::emptyFrame);
        edges.at("the first and the last frame of 32", ToldEdgesTest::firstAndLast);
        edges.at("-5 when there is none such", ToldEdgesTest::noSuchFrame);
        edges.at("-5 for others", ToldEdgesTest::others);
        edges.at("-5 for others: of an empty frame", ToldEdgesTest::othersOfEmpty);
        edges.at("-5 for others of none such", ToldEdgesTest::othersOfNoFrame);
        edges.at("leaves all as it was", ToldEdgesTest::leavesAll);
        edges.end();
    }

    private static void itsPage(Due due) {
        FramePool pool = new FramePool(2, 200, 1);
        pool.fetch(199);
        pool.fetch(0);
        due.is("told(0, 0)", pool.told(0, 0), 199);
        due.is("told(1, 0)", pool.told(1, 0), 0);
        pool.unpin(0);
        due.is("told(0, 0) without pins", pool.told(0, 0), 199);
    }

    private static void noPage(Due due) {
        FramePool pool = new FramePool(2, 5, 1);
        due.is("told(0, 0)", pool.told(0, 0), -1);
        due.is("told(1, 0)", pool.told(1, 0), -1);
    }

    private static void droppedPage(Due due) {
        FramePool pool = Pools.resting(2, 5, 1);
        pool.drop(0);
        due.is("told(0, 0)", pool.told(0, 0), -1);
    }

    private static void itsPins(Due due) {
        FramePool pool = new FramePool(1, 5, 1);
        due.is("told(0, 1) of an empty one", pool.told(0, 1), 0);
        for (int pins = 1; pins <= 20; pins++) {
            pool.fetch(3);
            due.is("told(0, 1)", pool.told(0, 1), pins);
        }
    }

    private static void dirty(Due due) {
        FramePool pool = Pools.pinned(2, 5, 1);
        due.is("told(0, 2) clean", pool.told(0, 2), 0);
        pool.writeWord(0, 0, 5);
        due.is("told(0, 2) written to", pool.told(0, 2), 1);
        due.is("told(1, 2) the other one", pool.told(1, 2), 0);
        pool.flush(0);
        due.is("told(0, 2) flushed", pool.told(0, 2), 0);
    }

    private static void mark(Due due) {
        FramePool pool = Pools.resting(2, 5, 1);
        due.is("told(1, 3) fetched", pool.told(1, 3), 1);
        pool.fetch(4);
        due.is("told(1, 3) looked at", pool.told(1, 3), 0);
        pool.fetch(1);
        due.is("told(1, 3) fetched again", pool.told(1, 3), 1);
    }

    private static void emptyFrame(Due due) {
        FramePool pool = Pools.written(2, 5, 1);
        pool.unpin(1);
        pool.drop(1);
        for (int what = 1; what <= 3; what++) {
            due.is("told(1, " + what + ") dropped", pool.told(1, what), 0);
            due.is("told(0, " + what + ") when new", new FramePool(2, 5, 1).told(0, what), 0);
        }
    }

    private static void firstAndLast(Due due) {
        FramePool pool = Pools.written(32, 200, 1);
        pool.fetch(31);
        due.frame("the first", pool, 0, 0, 1, 1, 1);
        due.frame("the last", pool, 31, 31, 2, 1, 1);
    }

    private static void noSuchFrame(Due due) {
        int[] counts = {1, 3, 32};
        for (int frames : counts) {
            FramePool pool = Pools.written(frames, 200, 1);
            for (int f : Pools.outside(frames)) {
                for (int what = 0; what < 4; what++) {
                    due.is("told(" + f + ", " + what + ") of " + frames, pool.told(f, what), -5);
                }
            }
        }
    }

    private static void others(Due due) {
        FramePool pool = Pools.written(2, 5, 1);
        for (int what : Pools.outside(4)) {
            due.is("told(0, " + what + ")", pool.told(0, what), -5);
            due.is("told(1, " + what + ")", pool.told(1, what), -5);
        }
    }

    private static void othersOfEmpty(Due due) {
        FramePool pool = new FramePool(2, 5, 1);
        for (int what : Pools.outside(4)) {
            due.is("told(0, " + what + ")", pool.told(0, what), -5);
        }
    }

    private static void othersOfNoFrame(Due due) {
        FramePool pool = Pools.written(2, 5, 1);
        for (int what : Pools.outside(4)) {
            due.is("told(-1, " + what + ")", pool.told(-1, what), -5);
            due.is("told(2, " + what + ")", pool.told(2, what), -5);
        }
    }

    private static void leavesAll(Due due) {
        FramePool pool = Pools.mixed();
        for (int f = -1; f <= 3; f++) {
            for (int what = -1; what <= 4; what++) {
                pool.told(f, what);
            }
        }
        Pools.stillMixed(due, pool);
    }
}
