/** Promise 3, fetch; how a frame is found; and promise 16, hand. */
public final class FetchTest {
    private static final Due DUE = new Due("FetchTest");

    public static void main(String[] args) {
        badPages();
        aPageIsReadIntoAnEmptyFrame();
        aPageInAFrameIsPinnedAgain();
        aFoundPageGetsItsMarkBack();
        allPinnedChangesNothing();
        allPinnedStillServesWhatIsThere();
        framesWithPinsAreLeft();
        marksGoBeforeAFrameIsFound();
        onlyLookedAtMarksGo();
        anEmptyFrameIsFoundOnlyWhenTheHandComesToIt();
        aDirtyPageIsWrittenWhenItMustGo();
        aCleanPageIsNotWrittenWhenItGoes();
        theHandGoesRound();
        oneFrameAlone();
        DUE.end();
    }

    private static FramePool filled(int frames) {
        FramePool pool = new FramePool(frames, 200, 2);
        for (int f = 0; f < frames; f++) {
            pool.fetch(f);
            pool.unpin(f);
        }
        return pool;
    }

    private static void badPages() {
        FramePool pool = new FramePool(2, 5, 2);
        int[] bad = {-1, -2, 5, 6, 200, Integer.MIN_VALUE, Integer.MAX_VALUE};
        for (int page : bad) {
            DUE.is("fetch(" + page + ") of 5 pages", pool.fetch(page), FramePool.BAD_PAGE);
        }
        DUE.emptyFrame("after bad pages", pool, 0);
        DUE.is("hand() after bad pages", pool.hand(), 0);
        DUE.is("diskReads() after bad pages", pool.diskReads(), 0);
        DUE.is("fetch(4), the last page", pool.fetch(4), 0);
        DUE.is("fetch(0), the first page", pool.fetch(0), 1);
        DUE.is("fetch(5) when all are pinned", pool.fetch(5), FramePool.BAD_PAGE);
    }

    private static void aPageIsReadIntoAnEmptyFrame() {
        FramePool pool = new FramePool(2, 5, 2);
        DUE.is("fetch(3)", pool.fetch(3), 0);
        DUE.frame("after fetch(3)", pool, 0, 3, 1, 0, 1);
        DUE.emptyFrame("after fetch(3)", pool, 1);
        DUE.is("hand() after fetch(3)", pool.hand(), 1);
        DUE.is("diskReads() after fetch(3)", pool.diskReads(), 1);
        DUE.is("diskWrites() after fetch(3)", pool.diskWrites(), 0);
        pool.writeWord(0, 0, 8);
        pool.writeWord(0, 1, 9);
        pool.flush(3);
        pool.unpin(0);
        pool.drop(3);
        DUE.is("fetch(4)", pool.fetch(4), 1);
        DUE.is("fetch(3) again", pool.fetch(3), 0);
        DUE.is("word 0 as the disk has it", pool.readWord(0, 0), 8);
        DUE.is("word 1 as the disk has it", pool.readWord(0, 1), 9);
        DUE.is("diskReads() after three", pool.diskReads(), 3);
    }

    private static void aPageInAFrameIsPinnedAgain() {
        FramePool pool = new FramePool(3, 5, 2);
        pool.fetch(3);
        pool.writeWord(0, 0, 7);
        DUE.is("fetch(3) again", pool.fetch(3), 0);
        DUE.is("fetch(3) a third time", pool.fetch(3), 0);
        DUE.frame("pinned three times, still dirty", pool, 0, 3, 3, 1, 1);
        DUE.is("the word written", pool.readWord(0, 0), 7);
        DUE.is("hand() stays", pool.hand(), 1);
        DUE.is("diskReads() stays", pool.diskReads(), 1);
    }

    private static void aFoundPageGetsItsMarkBack() {
        FramePool pool = filled(3);
        DUE.is("fetch(10)", pool.fetch(10), 0);
        DUE.frame("its mark has gone", pool, 1, 1, 0, 0, 0);
        DUE.is("fetch(1)", pool.fetch(1), 1);
        DUE.frame("its mark is back", pool, 1, 1, 1, 0, 1);
        DUE.frame("the neighbour's is not", pool, 2, 2, 0, 0, 0);
        DUE.is("hand() stays", pool.hand(), 1);
    }

    private static void allPinnedChangesNothing() {
        FramePool pool = new FramePool(3, 9, 2);
        pool.fetch(0);
        pool.fetch(1);
        pool.unpin(0);
        pool.drop(0);
        pool.fetch(2);
        pool.fetch(3);
        DUE.is("hand() before", pool.hand(), 1);
        pool.writeWord(1, 0, 4);
        DUE.is("fetch(4)", pool.fetch(4), FramePool.ALL_PINNED);
        DUE.is("hand() after", pool.hand(), 1);
        DUE.frame("all pinned", pool, 0, 3, 1, 0, 1);
        DUE.frame("all pinned", pool, 1, 1, 1, 1, 1);
        DUE.frame("all pinned", pool, 2, 2, 1, 0, 1);
        DUE.is("diskReads()", pool.diskReads(), 4);
        DUE.is("diskWrites()", pool.diskWrites(), 0);
        DUE.is("resident(4)", pool.resident(4), false);
    }

    private static void allPinnedStillServesWhatIsThere() {
        FramePool pool = new FramePool(2, 5, 1);
        pool.fetch(4);
        pool.fetch(2);
        DUE.is("fetch(2) when all are pinned", pool.fetch(2), 1);
        DUE.is("fetch(4) when all are pinned", pool.fetch(4), 0);
        DUE.is("fetch(0) when all are pinned", pool.fetch(0), FramePool.ALL_PINNED);
        pool.unpin(1);
        DUE.is("fetch(0) with one pin left", pool.fetch(0), FramePool.ALL_PINNED);
        pool.unpin(1);
        DUE.is("fetch(0) with no pin left", pool.fetch(0), 1);
    }

    private static void framesWithPinsAreLeft() {
        FramePool pool = filled(4);
        pool.fetch(0);
        pool.fetch(2);
        DUE.is("fetch(10)", pool.fetch(10), 1);
        DUE.frame("a pinned frame keeps its mark", pool, 0, 0, 1, 0, 1);
        DUE.frame("found in the second round", pool, 1, 10, 1, 0, 1);
        DUE.frame("a pinned frame keeps its mark", pool, 2, 2, 1, 0, 1);
        DUE.frame("the mark has gone", pool, 3, 3, 0, 0, 0);
        DUE.is("hand()", pool.hand(), 2);
        DUE.is("fetch(11)", pool.fetch(11), 3);
        DUE.is("hand() behind the last", pool.hand(), 0);
    }

    private static void marksGoBeforeAFrameIsFound() {
        FramePool pool = filled(3);
        DUE.is("hand() before", pool.hand(), 0);
        DUE.is("fetch(10)", pool.fetch(10), 0);
        DUE.is("hand() after a round and one", pool.hand(), 1);
        DUE.frame("marked anew", pool, 0, 10, 1, 0, 1);
        DUE.frame("mark gone", pool, 1, 1, 0, 0, 0);
        DUE.frame("mark gone", pool, 2, 2, 0, 0, 0);
        pool.unpin(0);
        DUE.is("fetch(11)", pool.fetch(11), 1);
        DUE.is("fetch(12)", pool.fetch(12), 2);
        DUE.frame("not looked at since", pool, 0, 10, 0, 0, 1);
    }

    private static void onlyLookedAtMarksGo() {
        FramePool pool = filled(4);
        pool.fetch(10);
        pool.unpin(0);
        pool.fetch(1);
        pool.unpin(1);
        pool.fetch(3);
        pool.unpin(3);
        DUE.is("fetch(11)", pool.fetch(11), 2);
        DUE.frame("not looked at", pool, 0, 10, 0, 0, 1);
        DUE.frame("looked at", pool, 1, 1, 0, 0, 0);
        DUE.frame("not looked at", pool, 3, 3, 0, 0, 1);
        DUE.is("hand()", pool.hand(), 3);
    }

    private static void anEmptyFrameIsFoundOnlyWhenTheHandComesToIt() {
        FramePool pool = filled(4);
        pool.fetch(10);
        pool.drop(3);
        DUE.is("fetch(11) before the empty one", pool.fetch(11), 1);
        DUE.is("hand()", pool.hand(), 2);
        pool.fetch(2);
        pool.unpin(2);
        DUE.is("fetch(12) takes the empty one", pool.fetch(12), 3);
        DUE.frame("its mark went on the way", pool, 2, 2, 0, 0, 0);
        DUE.is("hand() round", pool.hand(), 0);
    }

    private static void aDirtyPageIsWrittenWhenItMustGo() {
        FramePool pool = new FramePool(2, 5, 3);
        pool.fetch(4);
        pool.writeWord(0, 0, 1);
        pool.writeWord(0, 2, Integer.MIN_VALUE);
        pool.unpin(0);
        pool.fetch(1);
        DUE.is("diskWord(4, 0) before", pool.diskWord(4, 0), 0);
        DUE.is("fetch(2)", pool.fetch(2), 0);
        DUE.frame("the new page is not dirty", pool, 0, 2, 1, 0, 1);
        DUE.is("diskWord(4, 0) after", pool.diskWord(4, 0), 1);
        DUE.is("diskWord(4, 1) after", pool.diskWord(4, 1), 0);
        DUE.is("diskWord(4, 2) after", pool.diskWord(4, 2), Integer.MIN_VALUE);
        DUE.is("diskWord(2, 0) after", pool.diskWord(2, 0), 0);
        DUE.is("the new page's word 0", pool.readWord(0, 0), 0);
        DUE.is("the new page's word 2", pool.readWord(0, 2), 0);
        DUE.is("diskWrites()", pool.diskWrites(), 1);
        DUE.is("diskReads()", pool.diskReads(), 3);
        DUE.is("resident(4)", pool.resident(4), false);
    }

    private static void aCleanPageIsNotWrittenWhenItGoes() {
        FramePool pool = new FramePool(1, 5, 1);
        pool.fetch(0);
        pool.writeWord(0, 0, 6);
        pool.flush(0);
        pool.unpin(0);
        pool.fetch(1);
        DUE.is("diskWrites() after a flushed page went", pool.diskWrites(), 1);
        pool.unpin(0);
        pool.fetch(2);
        DUE.is("diskWrites() after an untouched page went", pool.diskWrites(), 1);
        DUE.is("diskReads()", pool.diskReads(), 3);
    }

    private static void theHandGoesRound() {
        FramePool pool = new FramePool(32, 200, 1);
        for (int page = 0; page < 150; page++) {
            DUE.is("fetch(" + page + ")", pool.fetch(page), page % 32);
            DUE.is("hand() after it", pool.hand(), (page + 1) % 32);
            pool.unpin(page % 32);
        }
        DUE.is("diskReads()", pool.diskReads(), 150);
    }

    private static void oneFrameAlone() {
        FramePool pool = new FramePool(1, 3, 1);
        DUE.is("fetch(2)", pool.fetch(2), 0);
        DUE.is("hand()", pool.hand(), 0);
        DUE.is("fetch(1)", pool.fetch(1), FramePool.ALL_PINNED);
        pool.unpin(0);
        DUE.is("fetch(1) then", pool.fetch(1), 0);
        DUE.frame("the one frame", pool, 0, 1, 1, 0, 1);
        DUE.is("hand() then", pool.hand(), 0);
    }
}
