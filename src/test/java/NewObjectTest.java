/** Promise 1, a new object, and promise 2, init. */
public final class NewObjectTest {
    private static final Due DUE = new Due("NewObjectTest");

    public static void main(String[] args) {
        sizesWithinTheLimits();
        framesAreHeldTo1And32();
        pagesAreHeldTo1And200();
        wordsAreHeldTo1And8();
        aNewObjectIsAsInitMakesIt();
        initTakesEverythingBack();
        initKeepsTheSizes();
        objectsDoNotShareAnything();
        DUE.end();
    }

    private static int framesOf(FramePool pool) {
        int frames = 0;
        while (frames < 1000 && pool.told(frames, 1) != -5) {
            frames++;
        }
        return frames;
    }

    private static int pagesOf(FramePool pool) {
        int pages = 0;
        while (pages < 1000 && pool.copy(0, pages) != FramePool.BAD_PAGE) {
            pages++;
        }
        return pages;
    }

    private static int wordsOf(FramePool pool) {
        int f = pool.fetch(0);
        int words = 0;
        while (words < 1000 && pool.writeWord(f, words, 1) != FramePool.BAD_OFFSET) {
            words++;
        }
        return words;
    }

    private static void sizes(int frames, int pages, int words,
            int dueFrames, int duePages, int dueWords) {
        FramePool pool = new FramePool(frames, pages, words);
        String made = "FramePool(" + frames + ", " + pages + ", " + words + ")";
        DUE.is("frames of " + made, framesOf(pool), dueFrames);
        DUE.is("pages of " + made, pagesOf(pool), duePages);
        DUE.is("words of " + made, wordsOf(pool), dueWords);
    }

    private static void sizesWithinTheLimits() {
        sizes(3, 7, 5, 3, 7, 5);
        sizes(8, 2, 1, 8, 2, 1);
        sizes(1, 1, 1, 1, 1, 1);
        sizes(32, 200, 8, 32, 200, 8);
    }

    private static void framesAreHeldTo1And32() {
        sizes(0, 5, 2, 1, 5, 2);
        sizes(-1, 5, 2, 1, 5, 2);
        sizes(Integer.MIN_VALUE, 5, 2, 1, 5, 2);
        sizes(2, 5, 2, 2, 5, 2);
        sizes(31, 5, 2, 31, 5, 2);
        sizes(33, 5, 2, 32, 5, 2);
        sizes(Integer.MAX_VALUE, 5, 2, 32, 5, 2);
    }

    private static void pagesAreHeldTo1And200() {
        sizes(2, 0, 2, 2, 1, 2);
        sizes(2, -1, 2, 2, 1, 2);
        sizes(2, Integer.MIN_VALUE, 2, 2, 1, 2);
        sizes(2, 2, 2, 2, 2, 2);
        sizes(2, 199, 2, 2, 199, 2);
        sizes(2, 201, 2, 2, 200, 2);
        sizes(2, Integer.MAX_VALUE, 2, 2, 200, 2);
    }

    private static void wordsAreHeldTo1And8() {
        sizes(2, 5, 0, 2, 5, 1);
        sizes(2, 5, -1, 2, 5, 1);
        sizes(2, 5, Integer.MIN_VALUE, 2, 5, 1);
        sizes(2, 5, 2, 2, 5, 2);
        sizes(2, 5, 7, 2, 5, 7);
        sizes(2, 5, 9, 2, 5, 8);
        sizes(2, 5, Integer.MAX_VALUE, 2, 5, 8);
    }

    private static void isNew(String when, FramePool pool, int frames, int pages, int words) {
        for (int f = 0; f < frames; f++) {
            DUE.emptyFrame(when, pool, f);
        }
        for (int page = 0; page < pages; page++) {
            DUE.is(when + ": resident(" + page + ")", pool.resident(page), false);
            for (int off = 0; off < words; off++) {
                DUE.is(when + ": diskWord(" + page + ", " + off + ")", pool.diskWord(page, off), 0);
            }
        }
        DUE.is(when + ": hand()", pool.hand(), 0);
        DUE.is(when + ": diskReads()", pool.diskReads(), 0);
        DUE.is(when + ": diskWrites()", pool.diskWrites(), 0);
        DUE.is(when + ": pinned()", pool.pinned(), 0);
    }

    private static void aNewObjectIsAsInitMakesIt() {
        isNew("new", new FramePool(4, 6, 3), 4, 6, 3);
        isNew("new, smallest", new FramePool(1, 1, 1), 1, 1, 1);
        aNewGreatestObject();
    }

    // An object is good for 512 calls, so the greatest disk is looked at in several of them.
    private static void aNewGreatestObject() {
        isNew("new, greatest, its frames", new FramePool(32, 200, 8), 32, 1, 8);
        for (int page = 0; page < 200; page++) {
            FramePool pool = new FramePool(32, 200, 8);
            DUE.is("new, greatest: resident(" + page + ")", pool.resident(page), false);
            for (int off = 0; off < 8; off++) {
                DUE.is("new, greatest: diskWord(" + page + ", " + off + ")",
                    pool.diskWord(page, off), 0);
            }
        }
    }

    private static void initTakesEverythingBack() {
        FramePool pool = new FramePool(3, 6, 2);
        for (int page = 0; page < 6; page++) {
            int f = pool.fetch(page);
            pool.writeWord(f, 0, 10 + page);
            pool.writeWord(f, 1, 20 + page);
            pool.unpin(f);
        }
        pool.fetch(1);
        pool.flushAll();
        pool.writeWord(pool.fetch(5), 1, 99);
        DUE.is("before init: the hand has moved", pool.hand() != 0, true);
        DUE.is("before init: the disk was written to", pool.diskWord(5, 1), 25);
        pool.init();
        isNew("after init", pool, 3, 6, 2);
        DUE.is("after init: fetch(5)", pool.fetch(5), 0);
        DUE.is("after init: readWord(0, 0)", pool.readWord(0, 0), 0);
        DUE.is("after init: readWord(0, 1)", pool.readWord(0, 1), 0);
        DUE.is("after init: fetch(2)", pool.fetch(2), 1);
    }

    private static void initKeepsTheSizes() {
        FramePool pool = new FramePool(3, 7, 5);
        pool.init();
        pool.init();
        DUE.is("frames after init", framesOf(pool), 3);
        DUE.is("pages after init", pagesOf(pool), 7);
        DUE.is("words after init", wordsOf(pool), 5);
    }

    private static void objectsDoNotShareAnything() {
        FramePool one = new FramePool(2, 3, 2);
        FramePool other = new FramePool(2, 3, 2);
        one.fetch(1);
        one.writeWord(0, 0, 5);
        one.flush(1);
        isNew("the other object", other, 2, 3, 2);
        other.init();
        DUE.is("diskWord(1, 0) of the first", one.diskWord(1, 0), 5);
    }
}
