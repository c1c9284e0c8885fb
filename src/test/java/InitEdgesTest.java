/** The edges of promise 2, init. */
public final class InitEdgesTest {
    public static void main(String[] args) {
        Edges edges = new Edges("Promise 2");
        edges.at("All frames are empty: those with pins", InitEdgesTest::pinnedFrames);
        edges.at("All frames are empty: dirty ones", InitEdgesTest::dirtyFrames);
        edges.at("All frames are empty: those with a mark", InitEdgesTest::markedFrames);
        edges.at("All frames are empty: all 32", InitEdgesTest::allFrames);
        edges.at("All frames are empty: no page is in one", InitEdgesTest::noPageIsIn);
        edges.at("All frames are empty: after a long life", InitEdgesTest::afterALongLife);
        edges.at("the hand stands at 0", InitEdgesTest::handAt0);
        edges.at("nothing was read", InitEdgesTest::nothingRead);
        edges.at("nothing was written", InitEdgesTest::nothingWritten);
        edges.at("nothing was written: dirty pages neither", InitEdgesTest::dirtyAreNotWritten);
        edges.at("all words of the disk are 0", InitEdgesTest::diskIs0);
        edges.at("all words of the disk are 0: the first and the last of the greatest",
            InitEdgesTest::greatestDiskIs0);
        edges.at("what is read then is 0", InitEdgesTest::wordsReadAre0);
        edges.at("of a new object", InitEdgesTest::ofANewObject);
        edges.at("twice", InitEdgesTest::twice);
        edges.at("the sizes stay", InitEdgesTest::sizesStay);
        edges.end();
    }

    private static void pinnedFrames(Due due) {
        FramePool pool = Pools.pinned(3, 5, 2);
        pool.fetch(1);
        pool.init();
        for (int f = 0; f < 3; f++) {
            due.emptyFrame("after init", pool, f);
            due.is("unpin(" + f + ")", pool.unpin(f), FramePool.NOT_PINNED);
        }
        due.is("pinned()", pool.pinned(), 0);
    }

    private static void dirtyFrames(Due due) {
        FramePool pool = Pools.written(3, 5, 2);
        pool.init();
        for (int f = 0; f < 3; f++) {
            due.is("told(" + f + ", 2)", pool.told(f, 2), 0);
        }
        due.is("flushAll()", pool.flushAll(), 0);
    }

    private static void markedFrames(Due due) {
        FramePool pool = Pools.resting(3, 5, 2);
        pool.init();
        for (int f = 0; f < 3; f++) {
            due.is("told(" + f + ", 3)", pool.told(f, 3), 0);
        }
    }

    private static void allFrames(Due due) {
        FramePool pool = Pools.written(32, 200, 1);
        pool.init();
        for (int f = 0; f < 32; f++) {
            due.emptyFrame("after init", pool, f);
        }
        for (int f = 0; f < 32; f++) {
            due.is("fetch(" + (100 + f) + ")", pool.fetch(100 + f), f);
        }
    }

    private static void noPageIsIn(Due due) {
        FramePool pool = Pools.pinned(3, 5, 2);
        pool.init();
        for (int page = 0; page < 5; page++) {
            due.is("resident(" + page + ")", pool.resident(page), false);
            due.is("drop(" + page + ")", pool.drop(page), false);
        }
    }

    private static void afterALongLife(Due due) {
        FramePool pool = new FramePool(1, 200, 1);
        for (int page = 0; page < 165; page++) {
            pool.fetch(page);
            pool.writeWord(0, 0, 7);
            pool.unpin(0);
        }
        pool.init();
        due.emptyFrame("after init", pool, 0);
        due.is("flushAll()", pool.flushAll(), 0);
        due.is("hand()", pool.hand(), 0);
        due.is("diskReads()", pool.diskReads(), 0);
        due.is("diskWrites()", pool.diskWrites(), 0);
        due.is("diskWord(163, 0)", pool.diskWord(163, 0), 0);
    }

    private static void handAt0(Due due) {
        for (int moved = 1; moved < 4; moved++) {
            FramePool pool = new FramePool(4, 5, 1);
            for (int page = 0; page < moved; page++) {
                pool.fetch(page);
            }
            due.is("hand() before", pool.hand(), moved);
            pool.init();
            due.is("hand() after", pool.hand(), 0);
            due.is("fetch(4)", pool.fetch(4), 0);
        }
    }

    private static void nothingRead(Due due) {
        FramePool pool = Pools.pinned(3, 5, 2);
        pool.init();
        due.is("diskReads()", pool.diskReads(), 0);
        pool.fetch(2);
        due.is("diskReads() after a READ", pool.diskReads(), 1);
    }

    private static void nothingWritten(Due due) {
        FramePool pool = Pools.written(3, 5, 2);
        pool.flushAll();
        due.is("diskWrites() before", pool.diskWrites(), 3);
        pool.init();
        due.is("diskWrites()", pool.diskWrites(), 0);
    }

    private static void dirtyAreNotWritten(Due due) {
        FramePool pool = Pools.written(3, 5, 2);
        pool.init();
        due.is("diskWrites()", pool.diskWrites(), 0);
        for (int page = 0; page < 3; page++) {
            due.is("diskWord(" + page + ", 0)", pool.diskWord(page, 0), 0);
        }
    }

    private static void diskIs0(Due due) {
        FramePool pool = Pools.fullDisk(3, 10, 8);
        due.is("diskWord(9, 7) before", pool.diskWord(9, 7), Pools.word(9, 7));
        pool.init();
        for (int page = 0; page < 10; page++) {
            for (int off = 0; off < 8; off++) {
                due.is("diskWord(" + page + ", " + off + ")", pool.diskWord(page, off), 0);
            }
        }
    }

    private static void greatestDiskIs0(Due due) {
        FramePool pool = new FramePool(32, 200, 8);
        Pools.write(pool, pool.fetch(0), 0, 8);
        Pools.write(pool, pool.fetch(199), 199, 8);
        pool.flushAll();
        due.is("diskWord(0, 0) before", pool.diskWord(0, 0), Pools.word(0, 0));
        due.is("diskWord(199, 7) before", pool.diskWord(199, 7), Pools.word(199, 7));
        pool.init();
        due.is("diskWord(0, 0)", pool.diskWord(0, 0), 0);
        due.is("diskWord(199, 7)", pool.diskWord(199, 7), 0);
    }

    private static void wordsReadAre0(Due due) {
        FramePool pool = Pools.written(3, 5, 2);
        pool.flushAll();
        pool.init();
        for (int f = 0; f < 3; f++) {
            pool.fetch(f);
            due.is("readWord(" + f + ", 0)", pool.readWord(f, 0), 0);
            due.is("readWord(" + f + ", 1)", pool.readWord(f, 1), 0);
        }
    }

    private static void ofANewObject(Due due) {
        FramePool pool = new FramePool(3, 5, 2);
        String before = Pools.state(pool, 3, 5, 2);
        pool.init();
        due.is("the state", Pools.state(pool, 3, 5, 2), before);
    }

    private static void twice(Due due) {
        FramePool pool = Pools.written(3, 5, 2);
        pool.init();
        String once = Pools.state(pool, 3, 5, 2);
        pool.init();
        due.is("the state", Pools.state(pool, 3, 5, 2), once);
    }

    private static void sizesStay(Due due) {
        FramePool pool = Pools.written(3, 5, 2);
        pool.init();
        due.is("told(2, 0)", pool.told(2, 0), -1);
        due.is("told(3, 0)", pool.told(3, 0), -5);
        due.is("fetch(4)", pool.fetch(4), 0);
        due.is("fetch(5)", pool.fetch(5), FramePool.BAD_PAGE);
        due.is("writeWord(0, 1, 9)", pool.writeWord(0, 1, 9), 0);
        due.is("writeWord(0, 2, 9)", pool.writeWord(0, 2, 9), FramePool.BAD_OFFSET);
    }
}
