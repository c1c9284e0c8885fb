/** The edges of promise 8, flushAll. */
public final class FlushAllEdgesTest {
    public static void main(String[] args) {
        Edges edges = new Edges("Promise 8");
        edges.at("All dirty pages are written: with and without pins", FlushAllEdgesTest::allDirty);
        edges.at("All dirty pages are written: each word to its place", FlushAllEdgesTest::places);
        edges.at("All dirty pages are written: the first and the last frame",
            FlushAllEdgesTest::firstAndLast);
        edges.at("All dirty pages are written: then they are not dirty",
            FlushAllEdgesTest::notDirtyThen);
        edges.at("All dirty pages are written: the others are not", FlushAllEdgesTest::onlyDirty);
        edges.at("how many: none, all frames empty", FlushAllEdgesTest::noneWhenEmpty);
        edges.at("how many: none dirty", FlushAllEdgesTest::noneDirty);
        edges.at("how many: one", FlushAllEdgesTest::one);
        edges.at("how many: all 32", FlushAllEdgesTest::all32);
        edges.at("how many: none a second time", FlushAllEdgesTest::secondTime);
        edges.at("how many: so many WRITEs", FlushAllEdgesTest::writes);
        edges.at("the rest stays as it was", FlushAllEdgesTest::restStays);
        edges.end();
    }

    private static void allDirty(Due due) {
        FramePool pool = Pools.written(3, 5, 1);
        pool.fetch(0);
        pool.unpin(1);
        due.is("flushAll()", pool.flushAll(), 3);
        for (int page = 0; page < 3; page++) {
            due.is("diskWord(" + page + ", 0)", pool.diskWord(page, 0), Pools.word(page, 0));
        }
    }

    private static void places(Due due) {
        FramePool pool = new FramePool(2, 9, 8);
        pool.fetch(8);
        pool.fetch(3);
        Pools.write(pool, 0, 8, 8);
        Pools.write(pool, 1, 3, 8);
        pool.flushAll();
        for (int page = 0; page < 9; page++) {
            for (int off = 0; off < 8; off++) {
                due.is("diskWord(" + page + ", " + off + ")", pool.diskWord(page, off),
                    page == 8 || page == 3 ? Pools.word(page, off) : 0);
            }
        }
    }

    private static void firstAndLast(Due due) {
        FramePool pool = Pools.pinned(32, 200, 1);
        pool.writeWord(0, 0, 5);
        pool.writeWord(31, 0, 6);
        due.is("flushAll()", pool.flushAll(), 2);
        due.is("diskWord(0, 0)", pool.diskWord(0, 0), 5);
        due.is("diskWord(31, 0)", pool.diskWord(31, 0), 6);
    }

    private static void notDirtyThen(Due due) {
        FramePool pool = Pools.written(3, 5, 1);
        pool.flushAll();
        for (int f = 0; f < 3; f++) {
            due.is("told(" + f + ", 2)", pool.told(f, 2), 0);
            due.is("flush(" + f + ")", pool.flush(f), 0);
        }
    }

    private static void onlyDirty(Due due) {
        FramePool pool = Pools.pinned(4, 9, 1);
        pool.writeWord(1, 0, 5);
        pool.writeWord(3, 0, 6);
        due.is("flushAll()", pool.flushAll(), 2);
        due.is("diskWrites()", pool.diskWrites(), 2);
        due.is("diskWord(0, 0)", pool.diskWord(0, 0), 0);
        due.is("diskWord(2, 0)", pool.diskWord(2, 0), 0);
    }

    private static void noneWhenEmpty(Due due) {
        FramePool pool = new FramePool(3, 5, 1);
        due.is("flushAll() when new", pool.flushAll(), 0);
        pool.fetch(4);
        pool.writeWord(0, 0, 5);
        pool.unpin(0);
        pool.drop(4);
        due.is("flushAll() after drop", pool.flushAll(), 0);
        due.is("diskWrites()", pool.diskWrites(), 0);
    }

    private static void noneDirty(Due due) {
        FramePool pool = Pools.pinned(3, 5, 1);
        due.is("flushAll()", pool.flushAll(), 0);
        due.is("diskWrites()", pool.diskWrites(), 0);
    }

    private static void one(Due due) {
        FramePool pool = Pools.written(1, 1, 1);
        due.is("flushAll()", pool.flushAll(), 1);
        due.is("diskWord(0, 0)", pool.diskWord(0, 0), Pools.word(0, 0));
    }

    private static void all32(Due due) {
        FramePool pool = Pools.written(32, 200, 1);
        due.is("flushAll()", pool.flushAll(), 32);
        for (int page = 0; page < 32; page++) {
            due.is("diskWord(" + page + ", 0)", pool.diskWord(page, 0), Pools.word(page, 0));
        }
    }

    private static void secondTime(Due due) {
        FramePool pool = Pools.written(3, 5, 1);
        due.is("flushAll()", pool.flushAll(), 3);
        due.is("flushAll() again", pool.flushAll(), 0);
        due.is("diskWrites()", pool.diskWrites(), 3);
    }

    private static void writes(Due due) {
        FramePool pool = Pools.written(3, 5, 2);
        pool.flush(1);
        due.is("flushAll()", pool.flushAll(), 2);
        due.is("diskWrites()", pool.diskWrites(), 3);
        due.is("diskReads()", pool.diskReads(), 3);
    }

    private static void restStays(Due due) {
        FramePool pool = Pools.written(3, 5, 2);
        pool.fetch(1);
        pool.unpin(2);
        pool.flushAll();
        due.frame("one pin", pool, 0, 0, 1, 0, 1);
        due.frame("two pins", pool, 1, 1, 2, 0, 1);
        due.frame("no pins", pool, 2, 2, 0, 0, 1);
        due.is("readWord(1, 1)", pool.readWord(1, 1), Pools.word(1, 1));
        due.is("hand()", pool.hand(), 0);
    }
}
