/** The edges of promise 10, copy. */
public final class CopyEdgesTest {
    public static void main(String[] args) {
        Edges edges = new Edges("Promise 10");
        theWords(edges);
        refused(edges);
        edges.end();
    }

    private static void theWords(Edges edges) {
        edges.at("the words of another one: all of them, no others", CopyEdgesTest::allWords);
        edges.at("as they are in its frame: not as on the disk", CopyEdgesTest::frameBeforeDisk);
        edges.at("as they are in its frame: without pins too", CopyEdgesTest::frameWithoutPins);
        edges.at("or else on the disk", CopyEdgesTest::fromDisk);
        edges.at("or else on the disk: the first and the last page", CopyEdgesTest::edgesOfDisk);
        edges.at("or else on the disk: it was dropped", CopyEdgesTest::droppedBefore);
        edges.at("or else on the disk: no READ, in no frame then", CopyEdgesTest::noRead);
        edges.at("the page itself: as it was, and dirty", CopyEdgesTest::itself);
        edges.at("in the frame of its own: not on the disk", CopyEdgesTest::notOnTheDisk);
        edges.at("which is dirty then", CopyEdgesTest::dirtyThen);
        edges.at("which is dirty then: with the words it had", CopyEdgesTest::sameWords);
        edges.at("the other one stays as it was", CopyEdgesTest::otherStays);
        edges.at("the first frame and the last of 32", CopyEdgesTest::firstAndLastFrame);
    }

    private static void refused(Edges edges) {
        edges.at("BAD_PAGE when there is none such: the page", CopyEdgesTest::badPage);
        edges.at("BAD_PAGE when there is none such: the other one", CopyEdgesTest::badFrom);
        edges.at("BAD_PAGE when there is none such: both", CopyEdgesTest::bothBad);
        edges.at("BAD_PAGE also when the page is in no frame with pins",
            CopyEdgesTest::badPageAndNotPinned);
        edges.at("NOT_PINNED when the page is in no frame", CopyEdgesTest::inNoFrame);
        edges.at("NOT_PINNED when its frame has no pins", CopyEdgesTest::withoutPins);
        edges.at("NOT_PINNED: the page itself, not the other one", CopyEdgesTest::otherIsPinned);
        edges.at("NOT_PINNED: onto itself without pins", CopyEdgesTest::itselfNotPinned);
        edges.at("BAD_PAGE leaves all as it was", CopyEdgesTest::badPageLeavesAll);
        edges.at("NOT_PINNED leaves all as it was", CopyEdgesTest::notPinnedLeavesAll);
    }

    private static void words(Due due, String when, FramePool pool, int f, int page, int words) {
        for (int off = 0; off < words; off++) {
            due.is(when + ": readWord(" + f + ", " + off + ")",
                pool.readWord(f, off), Pools.word(page, off));
        }
    }

    private static void allWords(Due due) {
        for (int count = 1; count <= 8; count++) {
            FramePool pool = Pools.written(4, 5, count);
            due.is("copy(1, 3)", pool.copy(1, 3), 0);
            words(due, "before it", pool, 0, 0, count);
            words(due, "copied", pool, 1, 3, count);
            words(due, "behind it", pool, 2, 2, count);
            words(due, "the other one", pool, 3, 3, count);
        }
    }

    private static void frameBeforeDisk(Due due) {
        FramePool pool = Pools.written(2, 5, 2);
        pool.flushAll();
        pool.writeWord(1, 0, 7);
        due.is("copy(0, 1)", pool.copy(0, 1), 0);
        due.is("readWord(0, 0)", pool.readWord(0, 0), 7);
        due.is("readWord(0, 1)", pool.readWord(0, 1), Pools.word(1, 1));
    }

    private static void frameWithoutPins(Due due) {
        FramePool pool = Pools.written(2, 5, 2);
        pool.unpin(1);
        due.is("copy(0, 1)", pool.copy(0, 1), 0);
        words(due, "copied", pool, 0, 1, 2);
    }

    private static void fromDisk(Due due) {
        FramePool pool = Pools.fullDisk(2, 5, 3);
        int f = pool.fetch(1);
        due.is("copy(1, 3)", pool.copy(1, 3), 0);
        words(due, "copied", pool, f, 3, 3);
    }

    private static void edgesOfDisk(Due due) {
        FramePool pool = Pools.fullDisk(2, 20, 8);
        int f = pool.fetch(10);
        due.is("copy(10, 0)", pool.copy(10, 0), 0);
        words(due, "copied from the first", pool, f, 0, 8);
        due.is("copy(10, 19)", pool.copy(10, 19), 0);
        words(due, "copied from the last", pool, f, 19, 8);
    }

    private static void droppedBefore(Due due) {
        FramePool pool = Pools.written(2, 5, 1);
        pool.flush(1);
        pool.writeWord(1, 0, 7);
        pool.unpin(1);
        pool.drop(1);
        due.is("copy(0, 1)", pool.copy(0, 1), 0);
        due.is("readWord(0, 0)", pool.readWord(0, 0), Pools.word(1, 0));
    }

    private static void noRead(Due due) {
        FramePool pool = Pools.fullDisk(2, 5, 1);
        pool.fetch(1);
        int reads = pool.diskReads();
        int writes = pool.diskWrites();
        int hand = pool.hand();
        pool.copy(1, 3);
        due.is("diskReads()", pool.diskReads(), reads);
        due.is("diskWrites()", pool.diskWrites(), writes);
        due.is("hand()", pool.hand(), hand);
        due.is("resident(3)", pool.resident(3), false);
    }

    private static void itself(Due due) {
        FramePool pool = Pools.written(2, 5, 2);
        pool.flushAll();
        pool.writeWord(1, 0, 7);
        pool.flushAll();
        due.is("copy(1, 1)", pool.copy(1, 1), 0);
        due.frame("dirty", pool, 1, 1, 1, 1, 1);
        due.is("readWord(1, 0)", pool.readWord(1, 0), 7);
        due.is("readWord(1, 1)", pool.readWord(1, 1), Pools.word(1, 1));
    }

    private static void notOnTheDisk(Due due) {
        FramePool pool = Pools.written(2, 5, 1);
        pool.copy(0, 1);
        due.is("diskWord(0, 0)", pool.diskWord(0, 0), 0);
        due.is("diskWrites()", pool.diskWrites(), 0);
        due.is("flush(0)", pool.flush(0), 1);
        due.is("diskWord(0, 0) flushed", pool.diskWord(0, 0), Pools.word(1, 0));
    }

    private static void dirtyThen(Due due) {
        FramePool pool = Pools.written(2, 5, 1);
        pool.flush(0);
        due.is("told(0, 2) before", pool.told(0, 2), 0);
        pool.copy(0, 1);
        due.frame("dirty", pool, 0, 0, 1, 1, 1);
    }

    private static void sameWords(Due due) {
        FramePool pool = Pools.pinned(2, 5, 1);
        due.is("copy(0, 1), all 0", pool.copy(0, 1), 0);
        due.is("told(0, 2)", pool.told(0, 2), 1);
        due.is("copy(1, 4), all 0 on the disk", pool.copy(1, 4), 0);
        due.is("told(1, 2)", pool.told(1, 2), 1);
    }

    private static void otherStays(Due due) {
        FramePool pool = Pools.pinned(3, 5, 1);
        pool.unpin(1);
        pool.copy(0, 1);
        pool.copy(0, 2);
        due.frame("the other one without pins", pool, 1, 1, 0, 0, 1);
        due.frame("the other one with a pin", pool, 2, 2, 1, 0, 1);
    }

    private static void firstAndLastFrame(Due due) {
        FramePool pool = Pools.written(32, 200, 8);
        due.is("copy(0, 31)", pool.copy(0, 31), 0);
        words(due, "into the first", pool, 0, 31, 8);
        due.is("copy(31, 1)", pool.copy(31, 1), 0);
        words(due, "into the last", pool, 31, 1, 8);
    }

    private static void badPage(Due due) {
        FramePool pool = Pools.pinned(2, 5, 1);
        for (int page : Pools.outside(5)) {
            due.is("copy(" + page + ", 0)", pool.copy(page, 0), FramePool.BAD_PAGE);
        }
    }

    private static void badFrom(Due due) {
        FramePool pool = Pools.pinned(2, 5, 1);
        for (int from : Pools.outside(5)) {
            due.is("copy(0, " + from + ")", pool.copy(0, from), FramePool.BAD_PAGE);
        }
    }

    private static void bothBad(Due due) {
        FramePool pool = Pools.pinned(2, 5, 1);
        for (int page : Pools.outside(5)) {
            due.is("copy(" + page + ", " + page + ")", pool.copy(page, page), FramePool.BAD_PAGE);
            due.is("copy(" + page + ", 5)", pool.copy(page, 5), FramePool.BAD_PAGE);
        }
    }

    private static void badPageAndNotPinned(Due due) {
        FramePool pool = Pools.resting(2, 5, 1);
        for (int from : Pools.outside(5)) {
            due.is("copy(0, " + from + "), no pins", pool.copy(0, from), FramePool.BAD_PAGE);
            due.is("copy(4, " + from + "), no frame", pool.copy(4, from), FramePool.BAD_PAGE);
        }
    }

    private static void inNoFrame(Due due) {
        FramePool pool = Pools.pinned(2, 5, 1);
        due.is("copy(2, 0)", pool.copy(2, 0), FramePool.NOT_PINNED);
        due.is("copy(4, 3)", pool.copy(4, 3), FramePool.NOT_PINNED);
        due.is("copy(0, 1) when new", new FramePool(2, 5, 1).copy(0, 1), FramePool.NOT_PINNED);
    }

    private static void withoutPins(Due due) {
        FramePool pool = Pools.pinned(2, 5, 1);
        pool.fetch(0);
        pool.unpin(0);
        due.is("copy(0, 1) with a pin left", pool.copy(0, 1), 0);
        pool.unpin(0);
        due.is("copy(0, 1) without pins", pool.copy(0, 1), FramePool.NOT_PINNED);
    }

    private static void otherIsPinned(Due due) {
        FramePool pool = Pools.pinned(2, 5, 1);
        pool.unpin(0);
        due.is("copy(0, 1)", pool.copy(0, 1), FramePool.NOT_PINNED);
        due.is("copy(1, 0)", pool.copy(1, 0), 0);
    }

    private static void itselfNotPinned(Due due) {
        FramePool pool = Pools.resting(2, 5, 1);
        due.is("copy(0, 0)", pool.copy(0, 0), FramePool.NOT_PINNED);
        due.is("copy(4, 4)", pool.copy(4, 4), FramePool.NOT_PINNED);
        due.is("told(0, 2)", pool.told(0, 2), 0);
    }

    private static void badPageLeavesAll(Due due) {
        FramePool pool = Pools.pinned(3, 5, 2);
        Pools.write(pool, 1, 1, 2);
        String before = Pools.state(pool, 3, 5, 2);
        for (int page : Pools.outside(5)) {
            pool.copy(page, 1);
            pool.copy(0, page);
        }
        due.is("the state", Pools.state(pool, 3, 5, 2), before);
    }

    private static void notPinnedLeavesAll(Due due) {
        FramePool pool = Pools.pinned(3, 5, 2);
        Pools.write(pool, 1, 1, 2);
        pool.unpin(0);
        String before = Pools.state(pool, 3, 5, 2);
        pool.copy(0, 1);
        pool.copy(4, 1);
        due.is("the state", Pools.state(pool, 3, 5, 2), before);
        pool.fetch(0);
        due.is("readWord(0, 0)", pool.readWord(0, 0), 0);
    }
}
