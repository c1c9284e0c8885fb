/** Promise 5, readWord; promise 6, writeWord; promise 11, diskWord. */
public final class WordTest {
    private static final Due DUE = new Due("WordTest");
    private static final int[] NO_FRAMES = {-1, 3, 4, 32, Integer.MIN_VALUE, Integer.MAX_VALUE};
    private static final int[] NO_OFFSETS = {-1, 2, 3, 8, Integer.MIN_VALUE, Integer.MAX_VALUE};
    private static final int[] NO_PAGES = {-1, 5, 6, 200, Integer.MIN_VALUE, Integer.MAX_VALUE};

    public static void main(String[] args) {
        wordsAreKeptApart();
        everyIntIsAWord();
        readingChangesNothing();
        readWordWithoutFrameOrWord();
        writingMakesDirty();
        writeWordWithoutFrameOrWord();
        notPinnedComesBeforeBadOffset();
        writingLeavesTheDisk();
        diskWordAnswersFromTheDisk();
        diskWordWithoutPageOrWord();
        DUE.end();
    }

    private static FramePool twoWordsInEveryFrame() {
        FramePool pool = new FramePool(32, 200, 8);
        for (int f = 0; f < 32; f++) {
            pool.fetch(199 - f);
            pool.writeWord(f, f % 8, 100 + f);
            pool.writeWord(f, (f + 3) % 8, 200 + f);
        }
        return pool;
    }

    private static int wordOfTwo(int f, int off) {
        return off == f % 8 ? 100 + f : off == (f + 3) % 8 ? 200 + f : 0;
    }

    private static void wordsAreKeptApart() {
        FramePool inFrames = twoWordsInEveryFrame();
        FramePool onDisk = twoWordsInEveryFrame();
        onDisk.flushAll();
        for (int f = 0; f < 32; f++) {
            for (int off = 0; off < 8; off++) {
                int page = 199 - f;
                DUE.is("readWord(" + f + ", " + off + ")",
                    inFrames.readWord(f, off), wordOfTwo(f, off));
                DUE.is("diskWord(" + page + ", " + off + ")",
                    onDisk.diskWord(page, off), wordOfTwo(f, off));
            }
        }
    }

    private static void everyIntIsAWord() {
        FramePool pool = new FramePool(1, 1, 1);
        pool.fetch(0);
        int[] words = {1, -1, 0, -3, 65536, Integer.MIN_VALUE, Integer.MAX_VALUE};
        for (int w : words) {
            DUE.is("writeWord(0, 0, " + w + ")", pool.writeWord(0, 0, w), 0);
            DUE.is("readWord(0, 0)", pool.readWord(0, 0), w);
            DUE.is("flush(0)", pool.flush(0), 1);
            DUE.is("diskWord(0, 0)", pool.diskWord(0, 0), w);
        }
    }

    private static void readingChangesNothing() {
        FramePool pool = new FramePool(3, 5, 2);
        pool.fetch(4);
        pool.readWord(0, 0);
        pool.diskWord(4, 0);
        DUE.frame("after reading", pool, 0, 4, 1, 0, 1);
        DUE.is("diskReads()", pool.diskReads(), 1);
    }

    private static void readWordWithoutFrameOrWord() {
        FramePool pool = new FramePool(3, 5, 2);
        for (int f = 0; f < 3; f++) {
            pool.fetch(f);
            pool.writeWord(f, 0, 7);
            pool.writeWord(f, 1, 8);
        }
        for (int f : NO_FRAMES) {
            DUE.is("readWord(" + f + ", 0) of 3 frames", pool.readWord(f, 0), 0);
        }
        for (int off : NO_OFFSETS) {
            DUE.is("readWord(1, " + off + ") of 2 words", pool.readWord(1, off), 0);
        }
        pool.unpin(1);
        DUE.is("readWord(1, 0) without pins", pool.readWord(1, 0), 0);
        DUE.is("readWord(0, 0) with pins", pool.readWord(0, 0), 7);
        pool.drop(1);
        DUE.is("readWord(1, 0) of an empty frame", pool.readWord(1, 0), 0);
        DUE.is("readWord(2, 1) with pins", pool.readWord(2, 1), 8);
    }

    private static void writingMakesDirty() {
        FramePool pool = new FramePool(2, 5, 2);
        pool.fetch(4);
        pool.fetch(3);
        DUE.is("writeWord(0, 1, 0), the word it has", pool.writeWord(0, 1, 0), 0);
        DUE.frame("dirty all the same", pool, 0, 4, 1, 1, 1);
        DUE.frame("the other is not", pool, 1, 3, 1, 0, 1);
    }

    private static void writeWordWithoutFrameOrWord() {
        FramePool pool = new FramePool(3, 5, 2);
        DUE.is("writeWord(0, 0, 1) when empty", pool.writeWord(0, 0, 1), FramePool.NOT_PINNED);
        for (int f = 0; f < 3; f++) {
            pool.fetch(f);
        }
        for (int f : NO_FRAMES) {
            DUE.is("writeWord(" + f + ", 0, 1) of 3 frames",
                pool.writeWord(f, 0, 1), FramePool.NOT_PINNED);
        }
        for (int off : NO_OFFSETS) {
            DUE.is("writeWord(1, " + off + ", 1) of 2 words",
                pool.writeWord(1, off, 1), FramePool.BAD_OFFSET);
        }
        pool.unpin(1);
        DUE.is("writeWord(1, 0, 1) without pins", pool.writeWord(1, 0, 1), FramePool.NOT_PINNED);
        pool.fetch(1);
        for (int f = 0; f < 3; f++) {
            DUE.frame("after refused writes", pool, f, f, 1, 0, 1);
            DUE.is("readWord(" + f + ", 0)", pool.readWord(f, 0), 0);
            DUE.is("readWord(" + f + ", 1)", pool.readWord(f, 1), 0);
        }
    }

    private static void notPinnedComesBeforeBadOffset() {
        FramePool pool = new FramePool(2, 5, 2);
        DUE.is("writeWord(0, 2, 1) when empty", pool.writeWord(0, 2, 1), FramePool.NOT_PINNED);
        DUE.is("writeWord(2, -1, 1)", pool.writeWord(2, -1, 1), FramePool.NOT_PINNED);
    }

    private static void writingLeavesTheDisk() {
        FramePool pool = new FramePool(2, 5, 2);
        pool.fetch(4);
        pool.writeWord(0, 0, 5);
        DUE.is("diskWord(4, 0)", pool.diskWord(4, 0), 0);
        DUE.is("diskWrites()", pool.diskWrites(), 0);
    }

    private static void diskWordAnswersFromTheDisk() {
        FramePool pool = new FramePool(2, 5, 2);
        pool.fetch(4);
        pool.writeWord(0, 1, 5);
        pool.flush(4);
        pool.writeWord(0, 1, 6);
        DUE.is("diskWord(4, 1), not the frame's", pool.diskWord(4, 1), 5);
        DUE.is("diskWord(4, 0)", pool.diskWord(4, 0), 0);
        DUE.is("diskWord(3, 1)", pool.diskWord(3, 1), 0);
        pool.unpin(0);
        pool.drop(4);
        DUE.is("diskWord(4, 1) in no frame", pool.diskWord(4, 1), 5);
    }

    private static void diskWordWithoutPageOrWord() {
        FramePool pool = new FramePool(2, 5, 2);
        for (int page = 0; page < 5; page++) {
            pool.fetch(page);
            pool.writeWord(page % 2, 0, 7);
            pool.writeWord(page % 2, 1, 8);
            pool.unpin(page % 2);
        }
        pool.flushAll();
        for (int page : NO_PAGES) {
            DUE.is("diskWord(" + page + ", 0) of 5 pages", pool.diskWord(page, 0), 0);
        }
        for (int off : NO_OFFSETS) {
            DUE.is("diskWord(2, " + off + ") of 2 words", pool.diskWord(2, off), 0);
        }
        DUE.is("diskWord(0, 0), the first", pool.diskWord(0, 0), 7);
        DUE.is("diskWord(4, 1), the last", pool.diskWord(4, 1), 8);
    }
}
