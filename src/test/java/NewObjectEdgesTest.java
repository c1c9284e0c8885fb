/** The edges of promise 1, a new object. */
public final class NewObjectEdgesTest {
    public static void main(String[] args) {
        Edges edges = new Edges("Promise 1");
        edges.at("Frames below 1 are 1", NewObjectEdgesTest::framesBelow1);
        edges.at("Frames: 1, 2, 31 and 32 are as wanted", NewObjectEdgesTest::framesWithin);
        edges.at("above 32 they are 32", NewObjectEdgesTest::framesAbove32);
        edges.at("pages below 1 are 1", NewObjectEdgesTest::pagesBelow1);
        edges.at("pages: 1, 2, 199 and 200 are as wanted", NewObjectEdgesTest::pagesWithin);
        edges.at("above 200 they are 200", NewObjectEdgesTest::pagesAbove200);
        edges.at("words below 1 are 1", NewObjectEdgesTest::wordsBelow1);
        edges.at("words: 1, 2, 7 and 8 are as wanted", NewObjectEdgesTest::wordsWithin);
        edges.at("above 8 they are 8", NewObjectEdgesTest::wordsAbove8);
        edges.at("all three too small", NewObjectEdgesTest::allTooSmall);
        edges.at("all three too large", NewObjectEdgesTest::allTooLarge);
        edges.at("each has its own limit", NewObjectEdgesTest::ownLimits);
        edges.at("more frames than pages", NewObjectEdgesTest::moreFramesThanPages);
        edges.at("As init() makes it", NewObjectEdgesTest::asInitMakesIt);
        edges.end();
    }

    private static final int[] BELOW_1 = {0, -1, -32, Integer.MIN_VALUE};

    private static void frames(Due due, int wanted, int made) {
        FramePool pool = new FramePool(wanted, 5, 2);
        String when = wanted + " frames wanted: ";
        due.is(when + "told(" + (made - 1) + ", 0)", pool.told(made - 1, 0), -1);
        due.is(when + "told(" + made + ", 0)", pool.told(made, 0), -5);
        due.is(when + "fetch(0)", pool.fetch(0), 0);
        due.is(when + "hand()", pool.hand(), made == 1 ? 0 : 1);
    }

    private static void pages(Due due, int wanted, int made) {
        FramePool pool = new FramePool(2, wanted, 2);
        String when = wanted + " pages wanted: ";
        due.is(when + "fetch(" + (made - 1) + ")", pool.fetch(made - 1), 0);
        due.is(when + "fetch(" + made + ")", pool.fetch(made), FramePool.BAD_PAGE);
        due.is(when + "writeWord(0, 1, 9)", pool.writeWord(0, 1, 9), 0);
        due.is(when + "flushAll()", pool.flushAll(), 1);
        due.is(when + "diskWord(" + (made - 1) + ", 1)", pool.diskWord(made - 1, 1), 9);
    }

    private static void words(Due due, int wanted, int made) {
        FramePool pool = new FramePool(2, 5, wanted);
        String when = wanted + " words wanted: ";
        pool.fetch(4);
        due.is(when + "writeWord(0, " + (made - 1) + ", 9)", pool.writeWord(0, made - 1, 9), 0);
        due.is(when + "writeWord(0, " + made + ", 9)",
            pool.writeWord(0, made, 9), FramePool.BAD_OFFSET);
        due.is(when + "flushAll()", pool.flushAll(), 1);
        due.is(when + "diskWord(4, " + (made - 1) + ")", pool.diskWord(4, made - 1), 9);
        due.is(when + "diskWord(4, " + made + ")", pool.diskWord(4, made), 0);
    }

    private static void framesBelow1(Due due) {
        for (int wanted : BELOW_1) {
            frames(due, wanted, 1);
        }
    }

    private static void framesWithin(Due due) {
        int[] within = {1, 2, 31, 32};
        for (int wanted : within) {
            frames(due, wanted, wanted);
        }
    }

    private static void framesAbove32(Due due) {
        int[] above = {33, 34, 64, 200, Integer.MAX_VALUE};
        for (int wanted : above) {
            frames(due, wanted, 32);
        }
    }

    private static void pagesBelow1(Due due) {
        for (int wanted : BELOW_1) {
            pages(due, wanted, 1);
        }
    }

    private static void pagesWithin(Due due) {
        int[] within = {1, 2, 199, 200};
        for (int wanted : within) {
            pages(due, wanted, wanted);
        }
    }

    private static void pagesAbove200(Due due) {
        int[] above = {201, 202, 400, 65536, Integer.MAX_VALUE};
        for (int wanted : above) {
            pages(due, wanted, 200);
        }
    }

    private static void wordsBelow1(Due due) {
        for (int wanted : BELOW_1) {
            words(due, wanted, 1);
        }
    }

    private static void wordsWithin(Due due) {
        int[] within = {1, 2, 7, 8};
        for (int wanted : within) {
            words(due, wanted, wanted);
        }
    }

    private static void wordsAbove8(Due due) {
        int[] above = {9, 10, 16, 32, Integer.MAX_VALUE};
        for (int wanted : above) {
            words(due, wanted, 8);
        }
    }

    private static void sizes(Due due, FramePool pool, int frames, int pages, int words) {
        due.is("told of the last frame", pool.told(frames - 1, 1), 0);
        due.is("told behind the last frame", pool.told(frames, 1), -5);
        due.is("fetch of the last page", pool.fetch(pages - 1), 0);
        due.is("fetch behind the last page", pool.fetch(pages), FramePool.BAD_PAGE);
        due.is("writeWord of the last word", pool.writeWord(0, words - 1, 1), 0);
        due.is("writeWord behind the last word",
            pool.writeWord(0, words, 1), FramePool.BAD_OFFSET);
    }

    private static void allTooSmall(Due due) {
        for (int wanted : BELOW_1) {
            sizes(due, new FramePool(wanted, wanted, wanted), 1, 1, 1);
        }
    }

    private static void allTooLarge(Due due) {
        int[] above = {201, 1 << 16, Integer.MAX_VALUE};
        for (int wanted : above) {
            sizes(due, new FramePool(wanted, wanted, wanted), 32, 200, 8);
        }
    }

    private static void ownLimits(Due due) {
        sizes(due, new FramePool(20, 20, 20), 20, 20, 8);
        sizes(due, new FramePool(100, 100, 100), 32, 100, 8);
        sizes(due, new FramePool(8, 3, 5), 8, 3, 5);
        sizes(due, new FramePool(0, 201, 8), 1, 200, 8);
        sizes(due, new FramePool(33, 0, 1), 32, 1, 1);
    }

    private static void moreFramesThanPages(Due due) {
        FramePool pool = new FramePool(32, 1, 1);
        due.is("fetch(0)", pool.fetch(0), 0);
        due.is("fetch(0) again", pool.fetch(0), 0);
        due.is("pinned()", pool.pinned(), 1);
        due.is("flushAll()", pool.flushAll(), 0);
    }

    private static void asInitMakesIt(Due due) {
        int[][] sizes = {{1, 1, 1}, {3, 5, 2}, {32, 5, 1}, {2, 20, 8}};
        for (int[] size : sizes) {
            FramePool made = new FramePool(size[0], size[1], size[2]);
            FramePool again = new FramePool(size[0], size[1], size[2]);
            again.init();
            due.is("a new object",
                Pools.state(made, size[0], size[1], size[2]),
                Pools.state(again, size[0], size[1], size[2]));
            due.emptyFrame("a new object", made, 0);
            due.is("hand()", made.hand(), 0);
            due.is("diskReads()", made.diskReads(), 0);
            due.is("diskWrites()", made.diskWrites(), 0);
        }
    }
}
