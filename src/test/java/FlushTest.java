/** Promise 7, flush; promise 8, flushAll; promises 13 and 14, diskReads and diskWrites. */
public final class FlushTest {
    private static final Due DUE = new Due("FlushTest");

    public static void main(String[] args) {
        aDirtyPageIsWrittenOnce();
        aPageWithoutPinsIsWrittenToo();
        nothingToFlush();
        noSuchPage();
        flushAllWritesTheDirtyOnes();
        flushAllLeavesPinsAndMarks();
        everyReadAndWriteIsCounted();
        DUE.end();
    }

    private static void aDirtyPageIsWrittenOnce() {
        FramePool pool = new FramePool(2, 5, 2);
        pool.fetch(3);
        pool.fetch(4);
        pool.writeWord(0, 0, 5);
        pool.writeWord(0, 1, 6);
        pool.writeWord(1, 0, 7);
        DUE.is("flush(3)", pool.flush(3), 1);
        DUE.frame("not dirty then", pool, 0, 3, 1, 0, 1);
        DUE.frame("the other one is", pool, 1, 4, 1, 1, 1);
        DUE.is("diskWord(3, 0)", pool.diskWord(3, 0), 5);
        DUE.is("diskWord(3, 1)", pool.diskWord(3, 1), 6);
        DUE.is("diskWord(4, 0)", pool.diskWord(4, 0), 0);
        DUE.is("diskWrites()", pool.diskWrites(), 1);
        DUE.is("flush(3) again", pool.flush(3), 0);
        DUE.is("diskWrites() again", pool.diskWrites(), 1);
        DUE.is("readWord(0, 0)", pool.readWord(0, 0), 5);
        DUE.is("hand()", pool.hand(), 0);
        DUE.is("diskReads()", pool.diskReads(), 2);
    }

    private static void aPageWithoutPinsIsWrittenToo() {
        FramePool pool = new FramePool(2, 5, 1);
        pool.fetch(3);
        pool.writeWord(0, 0, 5);
        pool.unpin(0);
        DUE.is("flush(3)", pool.flush(3), 1);
        DUE.frame("still in its frame", pool, 0, 3, 0, 0, 1);
        DUE.is("diskWord(3, 0)", pool.diskWord(3, 0), 5);
    }

    private static void nothingToFlush() {
        FramePool pool = new FramePool(1, 5, 1);
        DUE.is("flush(3) in no frame", pool.flush(3), 0);
        pool.fetch(3);
        DUE.is("flush(3) not dirty", pool.flush(3), 0);
        pool.writeWord(0, 0, 5);
        DUE.is("flush(2) in no frame", pool.flush(2), 0);
        DUE.frame("not touched", pool, 0, 3, 1, 1, 1);
        DUE.is("diskWrites()", pool.diskWrites(), 0);
    }

    private static void noSuchPage() {
        FramePool pool = new FramePool(2, 5, 1);
        pool.fetch(0);
        pool.writeWord(0, 0, 5);
        int[] none = {-1, -5, 5, 200, Integer.MIN_VALUE, Integer.MAX_VALUE};
        for (int page : none) {
            DUE.is("flush(" + page + ") of 5 pages", pool.flush(page), 0);
        }
        DUE.is("diskWrites()", pool.diskWrites(), 0);
    }

    private static void flushAllWritesTheDirtyOnes() {
        FramePool pool = new FramePool(4, 9, 1);
        DUE.is("flushAll() when new", pool.flushAll(), 0);
        for (int page = 5; page < 9; page++) {
            pool.fetch(page);
        }
        DUE.is("flushAll() with none dirty", pool.flushAll(), 0);
        pool.writeWord(0, 0, 1);
        pool.writeWord(1, 0, 2);
        pool.writeWord(3, 0, 3);
        pool.unpin(1);
        DUE.is("flushAll() with three dirty", pool.flushAll(), 3);
        DUE.is("diskWrites()", pool.diskWrites(), 3);
        DUE.is("diskWord(5, 0)", pool.diskWord(5, 0), 1);
        DUE.is("diskWord(6, 0)", pool.diskWord(6, 0), 2);
        DUE.is("diskWord(7, 0)", pool.diskWord(7, 0), 0);
        DUE.is("diskWord(8, 0)", pool.diskWord(8, 0), 3);
        DUE.is("flushAll() again", pool.flushAll(), 0);
        DUE.is("diskWrites() again", pool.diskWrites(), 3);
    }

    private static void flushAllLeavesPinsAndMarks() {
        FramePool pool = new FramePool(2, 5, 1);
        pool.fetch(3);
        pool.fetch(4);
        pool.writeWord(0, 0, 5);
        pool.writeWord(1, 0, 6);
        pool.unpin(1);
        pool.flushAll();
        DUE.frame("after flushAll", pool, 0, 3, 1, 0, 1);
        DUE.frame("after flushAll", pool, 1, 4, 0, 0, 1);
        DUE.is("hand()", pool.hand(), 0);
        DUE.is("readWord(0, 0)", pool.readWord(0, 0), 5);
    }

    private static void everyReadAndWriteIsCounted() {
        FramePool pool = new FramePool(2, 9, 1);
        for (int page = 0; page < 9; page++) {
            int f = pool.fetch(page);
            pool.fetch(page);
            pool.writeWord(f, 0, page);
            pool.unpin(f);
            pool.unpin(f);
            DUE.is("diskReads()", pool.diskReads(), page + 1);
            DUE.is("diskWrites()", pool.diskWrites(), page < 2 ? 0 : page - 1);
        }
        pool.flush(8);
        DUE.is("diskWrites() after flush", pool.diskWrites(), 8);
        pool.flushAll();
        DUE.is("diskWrites() after flushAll", pool.diskWrites(), 9);
        DUE.is("diskReads() after both", pool.diskReads(), 9);
    }
}
