/** The edges of promise 7, flush. */
public final class FlushEdgesTest {
    public static void main(String[] args) {
        Edges edges = new Edges("Promise 7");
        edges.at("is written to the disk: first and last word, first and last page",
            FlushEdgesTest::everyWord);
        edges.at("is written to the disk: with pins", FlushEdgesTest::withPins);
        edges.at("is written to the disk: without pins", FlushEdgesTest::withoutPins);
        edges.at("is written to the disk: in the last frame of 32", FlushEdgesTest::lastFrame);
        edges.at("is written to the disk: no other page", FlushEdgesTest::noOtherPage);
        edges.at("(a WRITE)", FlushEdgesTest::aWrite);
        edges.at("not dirty then, the rest as it was", FlushEdgesTest::notDirtyThen);
        edges.at("otherwise 0: not dirty", FlushEdgesTest::notDirty);
        edges.at("otherwise 0: a second time", FlushEdgesTest::secondTime);
        edges.at("otherwise 0: in no frame", FlushEdgesTest::inNoFrame);
        edges.at("otherwise 0: no such page", FlushEdgesTest::noSuchPage);
        edges.at("otherwise all stays as it was", FlushEdgesTest::leavesAll);
        edges.end();
    }

    private static void everyWord(Due due) {
        int[] pages = {0, 100, 199};
        for (int page : pages) {
            FramePool pool = new FramePool(2, 200, 8);
            pool.fetch(page);
            Pools.write(pool, 0, page, 8);
            due.is("flush(" + page + ")", pool.flush(page), 1);
            for (int off = 0; off < 8; off++) {
                due.is("diskWord(" + page + ", " + off + ")",
                    pool.diskWord(page, off), Pools.word(page, off));
            }
        }
    }

    private static void withPins(Due due) {
        FramePool pool = Pools.written(2, 5, 1);
        pool.fetch(1);
        due.is("flush(1)", pool.flush(1), 1);
        due.is("diskWord(1, 0)", pool.diskWord(1, 0), Pools.word(1, 0));
        due.is("told(1, 1)", pool.told(1, 1), 2);
    }

    private static void withoutPins(Due due) {
        FramePool pool = Pools.written(2, 5, 1);
        pool.unpin(1);
        due.is("flush(1)", pool.flush(1), 1);
        due.is("diskWord(1, 0)", pool.diskWord(1, 0), Pools.word(1, 0));
        due.is("told(1, 1)", pool.told(1, 1), 0);
        due.is("resident(1)", pool.resident(1), true);
    }

    private static void lastFrame(Due due) {
        FramePool pool = Pools.written(32, 200, 1);
        due.is("flush(31)", pool.flush(31), 1);
        due.is("diskWord(31, 0)", pool.diskWord(31, 0), Pools.word(31, 0));
    }

    private static void noOtherPage(Due due) {
        FramePool pool = Pools.written(3, 5, 2);
        pool.flush(1);
        due.is("told(0, 2)", pool.told(0, 2), 1);
        due.is("told(2, 2)", pool.told(2, 2), 1);
        for (int page = 0; page < 5; page++) {
            for (int off = 0; off < 2; off++) {
                due.is("diskWord(" + page + ", " + off + ")",
                    pool.diskWord(page, off), page == 1 ? Pools.word(1, off) : 0);
            }
        }
    }

    private static void aWrite(Due due) {
        FramePool pool = Pools.written(2, 5, 2);
        pool.flush(1);
        due.is("diskWrites()", pool.diskWrites(), 1);
        due.is("diskReads()", pool.diskReads(), 2);
    }

    private static void notDirtyThen(Due due) {
        FramePool pool = Pools.written(2, 5, 2);
        pool.flush(1);
        due.frame("flushed", pool, 1, 1, 1, 0, 1);
        due.is("readWord(1, 0)", pool.readWord(1, 0), Pools.word(1, 0));
        due.is("readWord(1, 1)", pool.readWord(1, 1), Pools.word(1, 1));
        due.is("hand()", pool.hand(), 0);
    }

    private static void notDirty(Due due) {
        FramePool pool = Pools.pinned(2, 5, 1);
        due.is("flush(0)", pool.flush(0), 0);
        due.is("flush(1)", pool.flush(1), 0);
        due.is("diskWrites()", pool.diskWrites(), 0);
    }

    private static void secondTime(Due due) {
        FramePool pool = Pools.written(2, 5, 1);
        due.is("flush(1)", pool.flush(1), 1);
        due.is("flush(1) again", pool.flush(1), 0);
        due.is("diskWrites()", pool.diskWrites(), 1);
    }

    private static void inNoFrame(Due due) {
        FramePool pool = Pools.written(2, 5, 1);
        due.is("flush(2)", pool.flush(2), 0);
        due.is("flush(4)", pool.flush(4), 0);
        pool.unpin(0);
        pool.drop(0);
        due.is("flush(0), dropped", pool.flush(0), 0);
        due.is("flush(0) when new", new FramePool(2, 5, 1).flush(0), 0);
        due.is("diskWrites()", pool.diskWrites(), 0);
    }

    private static void noSuchPage(Due due) {
        FramePool pool = Pools.written(2, 5, 1);
        FramePool empty = new FramePool(2, 5, 1);
        for (int page : Pools.outside(5)) {
            due.is("flush(" + page + ") of 5", pool.flush(page), 0);
            due.is("flush(" + page + ") of 5 when new", empty.flush(page), 0);
        }
    }

    private static void leavesAll(Due due) {
        FramePool pool = Pools.written(3, 5, 2);
        pool.flush(1);
        pool.unpin(2);
        pool.drop(2);
        String before = Pools.state(pool, 3, 5, 2);
        pool.flush(1);
        pool.flush(2);
        for (int page : Pools.outside(5)) {
            pool.flush(page);
        }
        due.is("the state", Pools.state(pool, 3, 5, 2), before);
    }
}
