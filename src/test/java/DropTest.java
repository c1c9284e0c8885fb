/** Promise 9, drop. */
public final class DropTest {
    private static final Due DUE = new Due("DropTest");

    public static void main(String[] args) {
        whatWasWrittenIsLost();
        whatWasFlushedStays();
        aPinnedPageStays();
        noFrameHasIt();
        onlyTheOneFrameIsEmptied();
        DUE.end();
    }

    private static void whatWasWrittenIsLost() {
        FramePool pool = new FramePool(2, 5, 2);
        pool.fetch(3);
        pool.writeWord(0, 0, 5);
        pool.unpin(0);
        DUE.is("drop(3)", pool.drop(3), true);
        DUE.emptyFrame("dropped", pool, 0);
        DUE.is("resident(3)", pool.resident(3), false);
        DUE.is("diskWord(3, 0)", pool.diskWord(3, 0), 0);
        DUE.is("diskWrites()", pool.diskWrites(), 0);
        DUE.is("hand()", pool.hand(), 1);
        DUE.is("flushAll()", pool.flushAll(), 0);
        DUE.is("drop(3) again", pool.drop(3), false);
        DUE.is("fetch(3)", pool.fetch(3), 1);
        DUE.is("readWord(1, 0)", pool.readWord(1, 0), 0);
    }

    private static void whatWasFlushedStays() {
        FramePool pool = new FramePool(1, 5, 2);
        pool.fetch(3);
        pool.writeWord(0, 0, 5);
        pool.flush(3);
        pool.writeWord(0, 0, 6);
        pool.writeWord(0, 1, 7);
        pool.unpin(0);
        DUE.is("drop(3)", pool.drop(3), true);
        DUE.is("fetch(3)", pool.fetch(3), 0);
        DUE.is("readWord(0, 0)", pool.readWord(0, 0), 5);
        DUE.is("readWord(0, 1)", pool.readWord(0, 1), 0);
    }

    private static void aPinnedPageStays() {
        FramePool pool = new FramePool(2, 5, 1);
        pool.fetch(3);
        pool.fetch(3);
        pool.writeWord(0, 0, 5);
        DUE.is("drop(3) with two pins", pool.drop(3), false);
        pool.unpin(0);
        DUE.is("drop(3) with one pin", pool.drop(3), false);
        DUE.frame("not dropped", pool, 0, 3, 1, 1, 1);
        DUE.is("readWord(0, 0)", pool.readWord(0, 0), 5);
        pool.unpin(0);
        DUE.is("drop(3) without pins", pool.drop(3), true);
    }

    private static void noFrameHasIt() {
        FramePool pool = new FramePool(3, 5, 1);
        DUE.is("drop(0) when new", pool.drop(0), false);
        pool.fetch(0);
        pool.unpin(0);
        int[] none = {1, 4, -1, 5, 200, Integer.MIN_VALUE, Integer.MAX_VALUE};
        for (int page : none) {
            DUE.is("drop(" + page + ")", pool.drop(page), false);
        }
        DUE.frame("still there", pool, 0, 0, 0, 0, 1);
    }

    private static void onlyTheOneFrameIsEmptied() {
        FramePool pool = new FramePool(3, 5, 1);
        for (int page = 2; page < 5; page++) {
            pool.fetch(page);
            pool.writeWord(page - 2, 0, page);
            pool.unpin(page - 2);
        }
        DUE.is("drop(3)", pool.drop(3), true);
        DUE.frame("before it", pool, 0, 2, 0, 1, 1);
        DUE.emptyFrame("dropped", pool, 1);
        DUE.frame("behind it", pool, 2, 4, 0, 1, 1);
    }
}
