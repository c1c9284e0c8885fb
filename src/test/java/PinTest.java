/** Promise 4, unpin, and promise 17, pinned. */
public final class PinTest {
    private static final Due DUE = new Due("PinTest");

    public static void main(String[] args) {
        unpinTellsHowManyAreLeft();
        noSuchFrame();
        unpinLeavesTheRest();
        pinnedCountsFramesNotPins();
        pinnedCountsAllFrames();
        DUE.end();
    }

    private static void unpinTellsHowManyAreLeft() {
        FramePool pool = new FramePool(2, 5, 1);
        pool.fetch(3);
        pool.fetch(3);
        pool.fetch(3);
        DUE.is("unpin(0) of three", pool.unpin(0), 2);
        DUE.is("unpin(0) of two", pool.unpin(0), 1);
        DUE.is("unpin(0) of one", pool.unpin(0), 0);
        DUE.is("unpin(0) of none", pool.unpin(0), FramePool.NOT_PINNED);
        DUE.is("told(0, 1) after that", pool.told(0, 1), 0);
        DUE.is("fetch(3)", pool.fetch(3), 0);
        DUE.is("unpin(0) of one again", pool.unpin(0), 0);
    }

    private static void noSuchFrame() {
        FramePool pool = new FramePool(2, 5, 1);
        DUE.is("unpin(0) of an empty frame", pool.unpin(0), FramePool.NOT_PINNED);
        pool.fetch(0);
        pool.fetch(1);
        int[] none = {-1, 2, 3, 32, Integer.MIN_VALUE, Integer.MAX_VALUE};
        for (int f : none) {
            DUE.is("unpin(" + f + ") of 2 frames", pool.unpin(f), FramePool.NOT_PINNED);
        }
        DUE.is("told(0, 1)", pool.told(0, 1), 1);
        DUE.is("told(1, 1)", pool.told(1, 1), 1);
        DUE.is("unpin(1), the last frame", pool.unpin(1), 0);
    }

    private static void unpinLeavesTheRest() {
        FramePool pool = new FramePool(2, 5, 1);
        pool.fetch(3);
        pool.fetch(4);
        pool.writeWord(0, 0, 9);
        pool.unpin(0);
        DUE.frame("still there, dirty and marked", pool, 0, 3, 0, 1, 1);
        DUE.frame("the other one", pool, 1, 4, 1, 0, 1);
        DUE.is("diskWrites()", pool.diskWrites(), 0);
        DUE.is("hand()", pool.hand(), 0);
        DUE.is("fetch(3)", pool.fetch(3), 0);
        DUE.is("readWord(0, 0)", pool.readWord(0, 0), 9);
    }

    private static void pinnedCountsFramesNotPins() {
        FramePool pool = new FramePool(3, 5, 1);
        DUE.is("pinned() when new", pool.pinned(), 0);
        pool.fetch(3);
        pool.fetch(3);
        DUE.is("pinned() with two pins on one", pool.pinned(), 1);
        pool.fetch(4);
        DUE.is("pinned() with two frames", pool.pinned(), 2);
        pool.unpin(0);
        DUE.is("pinned() with one pin less", pool.pinned(), 2);
        pool.unpin(0);
        DUE.is("pinned() with one frame less", pool.pinned(), 1);
        pool.unpin(0);
        DUE.is("pinned() after a refused unpin", pool.pinned(), 1);
        pool.unpin(1);
        DUE.is("pinned() with none", pool.pinned(), 0);
    }

    private static void pinnedCountsAllFrames() {
        FramePool pool = new FramePool(32, 200, 1);
        for (int f = 0; f < 32; f++) {
            pool.fetch(f);
            DUE.is("pinned()", pool.pinned(), f + 1);
        }
        pool.fetch(100);
        DUE.is("pinned() after a refused fetch", pool.pinned(), 32);
        pool.unpin(31);
        DUE.is("pinned() without the last", pool.pinned(), 31);
    }
}
