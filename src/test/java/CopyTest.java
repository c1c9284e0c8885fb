/** Promise 10, copy. */
public final class CopyTest {
    private static final Due DUE = new Due("CopyTest");

    public static void main(String[] args) {
        fromTheDisk();
        fromAFrameWithPins();
        fromAFrameWithoutPins();
        ontoItself();
        laterWordsAreKeptApart();
        badPages();
        notPinned();
        badPageComesBeforeNotPinned();
        DUE.end();
    }

    private static void fill(FramePool pool, int page, int first, int words) {
        int f = pool.fetch(page);
        for (int off = 0; off < words; off++) {
            pool.writeWord(f, off, first + off);
        }
    }

    private static void words(String when, FramePool pool, int f, int first, int words) {
        for (int off = 0; off < words; off++) {
            DUE.is(when + ": readWord(" + f + ", " + off + ")", pool.readWord(f, off), first + off);
        }
    }

    private static void fromTheDisk() {
        FramePool pool = new FramePool(2, 5, 3);
        fill(pool, 4, 10, 3);
        pool.flush(4);
        pool.unpin(0);
        pool.drop(4);
        pool.fetch(1);
        DUE.is("copy(1, 4)", pool.copy(1, 4), 0);
        DUE.frame("dirty then", pool, 1, 1, 1, 1, 1);
        words("from the disk", pool, 1, 10, 3);
        DUE.is("diskWord(1, 0)", pool.diskWord(1, 0), 0);
        DUE.is("resident(4)", pool.resident(4), false);
        DUE.is("diskReads()", pool.diskReads(), 2);
        DUE.is("diskWrites()", pool.diskWrites(), 1);
        DUE.is("hand()", pool.hand(), 0);
    }

    private static void fromAFrameWithPins() {
        FramePool pool = new FramePool(3, 5, 8);
        fill(pool, 0, 70, 8);
        pool.flush(0);
        fill(pool, 0, 10, 8);
        fill(pool, 3, 40, 8);
        pool.flush(3);
        DUE.is("copy(3, 0)", pool.copy(3, 0), 0);
        words("from the frame, not the disk", pool, 1, 10, 8);
        words("the other one has its own", pool, 0, 10, 8);
        DUE.frame("dirty then", pool, 1, 3, 1, 1, 1);
        DUE.frame("no pin more", pool, 0, 0, 2, 1, 1);
        DUE.is("diskReads()", pool.diskReads(), 2);
        DUE.is("diskWrites()", pool.diskWrites(), 2);
    }

    private static void fromAFrameWithoutPins() {
        FramePool pool = new FramePool(3, 5, 2);
        fill(pool, 0, 10, 2);
        pool.unpin(0);
        pool.fetch(3);
        DUE.is("copy(3, 0)", pool.copy(3, 0), 0);
        words("from the frame without pins", pool, 1, 10, 2);
        DUE.frame("as it was", pool, 0, 0, 0, 1, 1);
        DUE.is("flush(3)", pool.flush(3), 1);
        DUE.is("diskWord(3, 1)", pool.diskWord(3, 1), 11);
        DUE.is("diskWord(0, 1)", pool.diskWord(0, 1), 0);
    }

    private static void ontoItself() {
        FramePool pool = new FramePool(2, 5, 2);
        fill(pool, 3, 10, 2);
        pool.flush(3);
        DUE.is("copy(3, 3)", pool.copy(3, 3), 0);
        DUE.frame("dirty then", pool, 0, 3, 1, 1, 1);
        words("as it was", pool, 0, 10, 2);
    }

    private static void laterWordsAreKeptApart() {
        FramePool pool = new FramePool(2, 5, 2);
        fill(pool, 3, 10, 2);
        pool.fetch(4);
        pool.copy(4, 3);
        pool.writeWord(0, 0, 99);
        pool.writeWord(1, 1, 98);
        DUE.is("readWord(0, 0)", pool.readWord(0, 0), 99);
        DUE.is("readWord(0, 1)", pool.readWord(0, 1), 11);
        DUE.is("readWord(1, 0)", pool.readWord(1, 0), 10);
        DUE.is("readWord(1, 1)", pool.readWord(1, 1), 98);
    }

    private static void badPages() {
        FramePool pool = new FramePool(2, 5, 2);
        pool.fetch(3);
        int[] bad = {-1, 5, 6, 200, Integer.MIN_VALUE, Integer.MAX_VALUE};
        for (int page : bad) {
            DUE.is("copy(3, " + page + ")", pool.copy(3, page), FramePool.BAD_PAGE);
            DUE.is("copy(" + page + ", 3)", pool.copy(page, 3), FramePool.BAD_PAGE);
            DUE.is("copy(" + page + ", " + page + ")", pool.copy(page, page), FramePool.BAD_PAGE);
        }
        DUE.frame("not touched", pool, 0, 3, 1, 0, 1);
    }

    private static void notPinned() {
        FramePool pool = new FramePool(2, 5, 2);
        fill(pool, 3, 10, 2);
        pool.fetch(4);
        DUE.is("copy(2, 3) in no frame", pool.copy(2, 3), FramePool.NOT_PINNED);
        pool.unpin(1);
        DUE.is("copy(4, 3) without pins", pool.copy(4, 3), FramePool.NOT_PINNED);
        DUE.frame("not touched", pool, 1, 4, 0, 0, 1);
        pool.fetch(4);
        words("not copied", pool, 0, 10, 2);
        DUE.is("readWord(1, 0)", pool.readWord(1, 0), 0);
    }

    private static void badPageComesBeforeNotPinned() {
        FramePool pool = new FramePool(2, 5, 2);
        DUE.is("copy(0, 5) when new", pool.copy(0, 5), FramePool.BAD_PAGE);
        DUE.is("copy(0, -1) when new", pool.copy(0, -1), FramePool.BAD_PAGE);
        DUE.is("copy(0, 4) when new", pool.copy(0, 4), FramePool.NOT_PINNED);
    }
}
