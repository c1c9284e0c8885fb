/** The edges of promise 3, fetch. */
public final class FetchEdgesTest {
    public static void main(String[] args) {
        Edges edges = new Edges("Promise 3");
        aFrameHasIt(edges);
        noneHasIt(edges);
        refused(edges);
        edges.end();
    }

    private static void aFrameHasIt(Edges edges) {
        edges.at("the frame that has it gets one pin more", FetchEdgesTest::onePinMore);
        edges.at("the frame that has it gets one pin: it had none", FetchEdgesTest::firstPinAgain);
        edges.at("the frame that has it gets a mark: it had gone", FetchEdgesTest::markAgain);
        edges.at("the frame that has it: no READ, the hand stays", FetchEdgesTest::noRead);
        edges.at("the frame that has it: dirty it stays, with its words", FetchEdgesTest::staysDirty);
        edges.at("the frame that has it: the first and the last of 32", FetchEdgesTest::firstAndLast);
    }

    private static void noneHasIt(Edges edges) {
        edges.at("one is found: with an empty frame", FetchEdgesTest::emptyFrame);
        edges.at("one is found: a page has to go", FetchEdgesTest::aPageGoes);
        edges.at("the page is read into it: first and last page, first and last word",
            FetchEdgesTest::wordsAreRead);
        edges.at("the page is read into it: a page that went comes back", FetchEdgesTest::comesBack);
        edges.at("the page is read into it (a READ)", FetchEdgesTest::aRead);
        edges.at("with one pin and a mark", FetchEdgesTest::onePinAndAMark);
        edges.at("not dirty: where a dirty page was", FetchEdgesTest::notDirty);
        edges.at("Its number: 0 to 31", FetchEdgesTest::itsNumber);
    }

    private static void refused(Edges edges) {
        edges.at("ALL_PINNED when no frame has it and all have pins", FetchEdgesTest::allPinned);
        edges.at("ALL_PINNED: 31 of 32 with pins are not all", FetchEdgesTest::allButOne);
        edges.at("ALL_PINNED: not when a frame has it", FetchEdgesTest::allPinnedButThere);
        edges.at("ALL_PINNED: not when one is empty", FetchEdgesTest::allPinnedButEmpty);
        edges.at("ALL_PINNED leaves all as it was", FetchEdgesTest::allPinnedLeavesAll);
        edges.at("BAD_PAGE when there is none such", FetchEdgesTest::badPage);
        edges.at("BAD_PAGE: the numbers beside the first and the last", FetchEdgesTest::beside);
        edges.at("BAD_PAGE also when all have pins", FetchEdgesTest::badPageAllPinned);
        edges.at("BAD_PAGE leaves all as it was", FetchEdgesTest::badPageLeavesAll);
    }

    private static void onePinMore(Due due) {
        FramePool pool = Pools.pinned(3, 5, 1);
        for (int pins = 2; pins < 9; pins++) {
            due.is("fetch(1)", pool.fetch(1), 1);
            due.is("told(1, 1)", pool.told(1, 1), pins);
        }
        due.is("told(0, 1)", pool.told(0, 1), 1);
        due.is("told(2, 1)", pool.told(2, 1), 1);
    }

    private static void firstPinAgain(Due due) {
        FramePool pool = Pools.resting(3, 5, 1);
        due.is("fetch(2)", pool.fetch(2), 2);
        due.is("told(2, 1)", pool.told(2, 1), 1);
        due.is("pinned()", pool.pinned(), 1);
    }

    private static void markAgain(Due due) {
        FramePool pool = Pools.resting(3, 5, 1);
        pool.fetch(4);
        due.is("told(2, 3), gone", pool.told(2, 3), 0);
        due.is("fetch(2)", pool.fetch(2), 2);
        due.is("told(2, 3), back", pool.told(2, 3), 1);
        due.is("told(1, 3), the other one's", pool.told(1, 3), 0);
    }

    private static void noRead(Due due) {
        FramePool pool = Pools.resting(3, 5, 1);
        pool.fetch(4);
        pool.fetch(2);
        pool.fetch(4);
        due.is("diskReads()", pool.diskReads(), 4);
        due.is("hand()", pool.hand(), 1);
    }

    private static void staysDirty(Due due) {
        FramePool pool = Pools.written(2, 5, 2);
        pool.unpin(1);
        pool.fetch(0);
        pool.fetch(1);
        due.frame("still dirty", pool, 0, 0, 2, 1, 1);
        due.frame("still dirty", pool, 1, 1, 1, 1, 1);
        due.is("readWord(0, 1)", pool.readWord(0, 1), Pools.word(0, 1));
        due.is("readWord(1, 0)", pool.readWord(1, 0), Pools.word(1, 0));
        due.is("diskWrites()", pool.diskWrites(), 0);
    }

    private static void firstAndLast(Due due) {
        FramePool pool = Pools.pinned(32, 200, 1);
        due.is("fetch(0)", pool.fetch(0), 0);
        due.is("fetch(31)", pool.fetch(31), 31);
    }

    private static void emptyFrame(Due due) {
        FramePool pool = new FramePool(2, 5, 1);
        due.is("fetch(4)", pool.fetch(4), 0);
        due.is("told(0, 0)", pool.told(0, 0), 4);
        due.emptyFrame("the other one", pool, 1);
    }

    private static void aPageGoes(Due due) {
        FramePool pool = Pools.resting(2, 5, 1);
        due.is("fetch(4)", pool.fetch(4), 0);
        due.is("resident(0), which went", pool.resident(0), false);
        due.is("resident(1), which did not", pool.resident(1), true);
        due.is("resident(4), which came", pool.resident(4), true);
    }

    private static void wordsAreRead(Due due) {
        FramePool pool = Pools.fullDisk(3, 20, 8);
        int[] pages = {0, 10, 19};
        for (int page : pages) {
            int f = pool.fetch(page);
            for (int off = 0; off < 8; off++) {
                due.is("word " + off + " of page " + page,
                    pool.readWord(f, off), Pools.word(page, off));
            }
        }
    }

    private static void comesBack(Due due) {
        FramePool pool = Pools.written(1, 5, 2);
        pool.unpin(0);
        pool.fetch(4);
        pool.unpin(0);
        due.is("fetch(0)", pool.fetch(0), 0);
        due.is("readWord(0, 0)", pool.readWord(0, 0), Pools.word(0, 0));
        due.is("readWord(0, 1)", pool.readWord(0, 1), Pools.word(0, 1));
    }

    private static void aRead(Due due) {
        FramePool pool = new FramePool(1, 5, 1);
        for (int page = 0; page < 5; page++) {
            pool.fetch(page);
            due.is("diskReads()", pool.diskReads(), page + 1);
            pool.unpin(0);
        }
    }

    private static void onePinAndAMark(Due due) {
        FramePool pool = new FramePool(1, 5, 1);
        pool.fetch(3);
        pool.fetch(3);
        pool.unpin(0);
        pool.unpin(0);
        pool.fetch(4);
        due.is("told(0, 1)", pool.told(0, 1), 1);
        due.is("told(0, 3)", pool.told(0, 3), 1);
    }

    private static void notDirty(Due due) {
        FramePool pool = Pools.written(1, 5, 1);
        pool.unpin(0);
        pool.fetch(4);
        due.is("told(0, 2)", pool.told(0, 2), 0);
        due.is("flush(4)", pool.flush(4), 0);
    }

    private static void itsNumber(Due due) {
        FramePool pool = new FramePool(32, 200, 1);
        for (int f = 0; f < 32; f++) {
            due.is("fetch(" + (199 - f) + ")", pool.fetch(199 - f), f);
        }
    }

    private static void allPinned(Due due) {
        int[] counts = {1, 2, 31, 32};
        for (int frames : counts) {
            FramePool pool = Pools.pinned(frames, 200, 1);
            due.is("fetch(100), all of " + frames, pool.fetch(100), FramePool.ALL_PINNED);
            due.is("fetch(199), all of " + frames, pool.fetch(199), FramePool.ALL_PINNED);
        }
    }

    private static void allButOne(Due due) {
        int[] frees = {0, 1, 30, 31};
        for (int free : frees) {
            FramePool pool = Pools.pinned(32, 200, 1);
            pool.unpin(free);
            due.is("fetch(100)", pool.fetch(100), free);
            due.is("fetch(101) then", pool.fetch(101), FramePool.ALL_PINNED);
        }
    }

    private static void allPinnedButThere(Due due) {
        FramePool pool = Pools.pinned(3, 9, 1);
        for (int page = 0; page < 3; page++) {
            due.is("fetch(" + page + ")", pool.fetch(page), page);
        }
        due.is("told(2, 1)", pool.told(2, 1), 2);
    }

    private static void allPinnedButEmpty(Due due) {
        FramePool pool = Pools.pinned(3, 9, 1);
        pool.unpin(1);
        pool.drop(1);
        due.is("pinned()", pool.pinned(), 2);
        due.is("fetch(8)", pool.fetch(8), 1);
    }

    private static void allPinnedLeavesAll(Due due) {
        FramePool pool = Pools.written(3, 9, 2);
        pool.unpin(0);
        pool.fetch(8);
        due.is("hand() is not at 0", pool.hand(), 1);
        String before = Pools.state(pool, 3, 9, 2);
        due.is("fetch(7)", pool.fetch(7), FramePool.ALL_PINNED);
        due.is("the state", Pools.state(pool, 3, 9, 2), before);
    }

    private static void badPage(Due due) {
        FramePool pool = new FramePool(3, 5, 1);
        for (int page : Pools.outside(5)) {
            due.is("fetch(" + page + ") of 5", pool.fetch(page), FramePool.BAD_PAGE);
        }
    }

    private static void beside(Due due) {
        int[] counts = {1, 2, 199, 200};
        for (int pages : counts) {
            FramePool pool = new FramePool(3, pages, 8);
            due.is("fetch(-1) of " + pages, pool.fetch(-1), FramePool.BAD_PAGE);
            due.is("fetch(" + pages + ")", pool.fetch(pages), FramePool.BAD_PAGE);
            due.is("fetch(" + (pages - 1) + ")", pool.fetch(pages - 1), 0);
            due.is("fetch(0)", pool.fetch(0), pages == 1 ? 0 : 1);
        }
    }

    private static void badPageAllPinned(Due due) {
        FramePool pool = Pools.pinned(3, 5, 1);
        for (int page : Pools.outside(5)) {
            due.is("fetch(" + page + ") of 5", pool.fetch(page), FramePool.BAD_PAGE);
        }
    }

    private static void badPageLeavesAll(Due due) {
        FramePool pool = Pools.written(3, 5, 2);
        pool.unpin(0);
        pool.fetch(4);
        pool.unpin(0);
        pool.unpin(2);
        pool.drop(2);
        String before = Pools.state(pool, 3, 5, 2);
        for (int page : Pools.outside(5)) {
            pool.fetch(page);
        }
        due.is("the state", Pools.state(pool, 3, 5, 2), before);
    }
}
