/** The edges of promise 11, diskWord. */
public final class DiskWordEdgesTest {
    public static void main(String[] args) {
        Edges edges = new Edges("Promise 11");
        edges.at("The word that the disk has: every place", DiskWordEdgesTest::everyPlace);
        edges.at("The word that the disk has: the first and the last of the greatest",
            DiskWordEdgesTest::greatest);
        edges.at("The word that the disk has: not the frame's", DiskWordEdgesTest::notTheFrames);
        edges.at("The word that the disk has: in no frame, or without pins",
            DiskWordEdgesTest::whereverThePageIs);
        edges.at("0 when there is none such: no such page", DiskWordEdgesTest::noSuchPage);
        edges.at("0 when there is none such: no such word", DiskWordEdgesTest::noSuchWord);
        edges.at("0 when there is none such: neither", DiskWordEdgesTest::neither);
        edges.at("leaves all as it was", DiskWordEdgesTest::leavesAll);
        edges.end();
    }

    private static void everyPlace(Due due) {
        for (int words = 1; words <= 8; words++) {
            FramePool pool = Pools.fullDisk(2, 9, words);
            for (int page = 0; page < 9; page++) {
                for (int off = 0; off < words; off++) {
                    due.is("diskWord(" + page + ", " + off + ") of " + words,
                        pool.diskWord(page, off), Pools.word(page, off));
                }
            }
        }
    }

    private static void greatest(Due due) {
        FramePool pool = new FramePool(32, 200, 8);
        Pools.write(pool, pool.fetch(199), 199, 8);
        Pools.write(pool, pool.fetch(0), 0, 8);
        pool.flushAll();
        due.is("diskWord(0, 0)", pool.diskWord(0, 0), Pools.word(0, 0));
        due.is("diskWord(0, 7)", pool.diskWord(0, 7), Pools.word(0, 7));
        due.is("diskWord(1, 0)", pool.diskWord(1, 0), 0);
        due.is("diskWord(198, 7)", pool.diskWord(198, 7), 0);
        due.is("diskWord(199, 0)", pool.diskWord(199, 0), Pools.word(199, 0));
        due.is("diskWord(199, 7)", pool.diskWord(199, 7), Pools.word(199, 7));
    }

    private static void notTheFrames(Due due) {
        FramePool pool = Pools.written(2, 5, 2);
        due.is("diskWord(1, 0) not written yet", pool.diskWord(1, 0), 0);
        pool.flush(1);
        pool.writeWord(1, 0, 7);
        due.is("diskWord(1, 0) written before", pool.diskWord(1, 0), Pools.word(1, 0));
    }

    private static void whereverThePageIs(Due due) {
        FramePool pool = Pools.written(2, 5, 1);
        pool.flushAll();
        pool.unpin(0);
        due.is("diskWord(0, 0) without pins", pool.diskWord(0, 0), Pools.word(0, 0));
        pool.drop(0);
        due.is("diskWord(0, 0) in no frame", pool.diskWord(0, 0), Pools.word(0, 0));
        due.is("diskWord(1, 0) with pins", pool.diskWord(1, 0), Pools.word(1, 0));
    }

    private static void noSuchPage(Due due) {
        int[] counts = {1, 2, 8};
        for (int words : counts) {
            FramePool pool = Pools.fullDisk(2, 5, words);
            for (int page : Pools.outside(5)) {
                due.is("diskWord(" + page + ", 0) of 5", pool.diskWord(page, 0), 0);
                due.is("diskWord(" + page + ", " + (words - 1) + ") of 5",
                    pool.diskWord(page, words - 1), 0);
            }
        }
    }

    // A page stands on either side, so that a step too far would meet a word that is not 0.
    private static void noSuchWord(Due due) {
        int[] counts = {1, 2, 7, 8};
        for (int words : counts) {
            FramePool pool = Pools.fullDisk(2, 5, words);
            for (int off : Pools.outside(words)) {
                due.is("diskWord(2, " + off + ") of " + words, pool.diskWord(2, off), 0);
            }
        }
    }

    private static void neither(Due due) {
        FramePool pool = Pools.fullDisk(2, 5, 2);
        due.is("diskWord(-1, 2)", pool.diskWord(-1, 2), 0);
        due.is("diskWord(-1, 4)", pool.diskWord(-1, 4), 0);
        due.is("diskWord(5, -1)", pool.diskWord(5, -1), 0);
        due.is("diskWord(5, -2)", pool.diskWord(5, -2), 0);
        due.is("diskWord(1 << 30, 1 << 30)", pool.diskWord(1 << 30, 1 << 30), 0);
    }

    private static void leavesAll(Due due) {
        FramePool pool = Pools.mixed();
        for (int page = -1; page <= 5; page++) {
            for (int off = -1; off <= 2; off++) {
                pool.diskWord(page, off);
            }
        }
        Pools.stillMixed(due, pool);
    }
}
