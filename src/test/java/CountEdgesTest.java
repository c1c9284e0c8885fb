/** The edges of promise 13, diskReads, and of promise 14, diskWrites. */
public final class CountEdgesTest {
    public static void main(String[] args) {
        Edges reads = new Edges("Promise 13");
        reads.at("none of a new object", CountEdgesTest::noReads);
        reads.at("a page fetched again when it had gone is a READ again", CountEdgesTest::readAgain);
        reads.at("a page fetched again that is there is none", CountEdgesTest::thereAlready);
        reads.at("a refused fetch is none", CountEdgesTest::refusedFetch);
        reads.at("no other call is one", CountEdgesTest::noOtherReads);
        reads.at("leaves all as it was", CountEdgesTest::diskReadsLeavesAll);
        Edges writes = new Edges("Promise 14");
        writes.at("none of a new object", CountEdgesTest::noWrites);
        writes.at("a dirty page that goes, is flushed, or is flushed with all", CountEdgesTest::three);
        writes.at("one for a page, however much was written into it", CountEdgesTest::oneForAPage);
        writes.at("a page that is not dirty is none", CountEdgesTest::cleanPages);
        writes.at("a dropped page is none", CountEdgesTest::droppedPage);
        writes.at("a refused fetch is none", CountEdgesTest::refusedFetchWritesNothing);
        writes.at("no other call is one", CountEdgesTest::noOtherWrites);
        writes.at("leaves all as it was", CountEdgesTest::diskWritesLeavesAll);
        reads.end();
        writes.end();
    }

    private static void noReads(Due due) {
        due.is("diskReads()", new FramePool(3, 5, 2).diskReads(), 0);
    }

    private static void readAgain(Due due) {
        FramePool pool = Pools.resting(1, 5, 1);
        pool.fetch(1);
        pool.unpin(0);
        pool.fetch(0);
        due.is("diskReads(), it went and came", pool.diskReads(), 3);
        pool.unpin(0);
        pool.drop(0);
        pool.fetch(0);
        due.is("diskReads(), dropped and back", pool.diskReads(), 4);
    }

    private static void thereAlready(Due due) {
        FramePool pool = Pools.resting(2, 5, 1);
        pool.fetch(0);
        pool.fetch(0);
        pool.fetch(1);
        due.is("diskReads()", pool.diskReads(), 2);
    }

    private static void refusedFetch(Due due) {
        FramePool pool = Pools.pinned(2, 5, 1);
        pool.fetch(4);
        pool.fetch(5);
        pool.fetch(-1);
        due.is("diskReads()", pool.diskReads(), 2);
    }

    private static void callTheOthers(FramePool pool) {
        pool.readWord(0, 0);
        pool.writeWord(0, 0, 5);
        pool.copy(0, 1);
        pool.copy(0, 4);
        pool.diskWord(0, 0);
        pool.resident(4);
        pool.told(0, 0);
        pool.hand();
        pool.pinned();
        pool.diskReads();
        pool.diskWrites();
        pool.unpin(1);
        pool.drop(1);
    }

    private static void noOtherReads(Due due) {
        FramePool pool = Pools.pinned(2, 5, 1);
        callTheOthers(pool);
        pool.flush(0);
        pool.flushAll();
        due.is("diskReads()", pool.diskReads(), 2);
    }

    private static void noWrites(Due due) {
        due.is("diskWrites()", new FramePool(3, 5, 2).diskWrites(), 0);
    }

    private static void three(Due due) {
        FramePool pool = Pools.written(4, 9, 1);
        pool.flush(0);
        due.is("diskWrites() after flush", pool.diskWrites(), 1);
        pool.unpin(1);
        pool.fetch(8);
        due.is("diskWrites() after one went", pool.diskWrites(), 2);
        pool.flushAll();
        due.is("diskWrites() after flushAll", pool.diskWrites(), 4);
    }

    private static void oneForAPage(Due due) {
        FramePool pool = Pools.written(1, 5, 8);
        Pools.write(pool, 0, 3, 8);
        pool.copy(0, 4);
        pool.flush(0);
        due.is("diskWrites()", pool.diskWrites(), 1);
    }

    private static void cleanPages(Due due) {
        FramePool pool = Pools.pinned(2, 5, 1);
        pool.flush(0);
        pool.flushAll();
        pool.unpin(0);
        pool.fetch(4);
        due.is("diskWrites()", pool.diskWrites(), 0);
    }

    private static void droppedPage(Due due) {
        FramePool pool = Pools.written(1, 5, 1);
        pool.unpin(0);
        pool.drop(0);
        pool.flushAll();
        pool.fetch(4);
        due.is("diskWrites()", pool.diskWrites(), 0);
    }

    private static void refusedFetchWritesNothing(Due due) {
        FramePool pool = Pools.written(2, 5, 1);
        pool.fetch(4);
        pool.fetch(5);
        due.is("diskWrites()", pool.diskWrites(), 0);
    }

    private static void noOtherWrites(Due due) {
        FramePool pool = Pools.written(2, 5, 1);
        callTheOthers(pool);
        due.is("diskWrites()", pool.diskWrites(), 0);
    }

    private static void diskReadsLeavesAll(Due due) {
        FramePool pool = Pools.mixed();
        pool.diskReads();
        pool.diskReads();
        Pools.stillMixed(due, pool);
    }

    private static void diskWritesLeavesAll(Due due) {
        FramePool pool = Pools.mixed();
        pool.diskWrites();
        pool.diskWrites();
        Pools.stillMixed(due, pool);
    }
}
