/** The edges of promise 5, readWord. */
public final class ReadWordEdgesTest {
    public static void main(String[] args) {
        Edges edges = new Edges("Promise 5");
        edges.at("A word of a frame's page: every place, the first and the last",
            ReadWordEdgesTest::everyPlace);
        edges.at("A word of a frame's page: the last of the greatest", ReadWordEdgesTest::greatest);
        edges.at("A word of a frame's page: not the disk's", ReadWordEdgesTest::notTheDisks);
        edges.at("0 when there is no such frame", ReadWordEdgesTest::noSuchFrame);
        edges.at("0 when it has no pins", ReadWordEdgesTest::noPins);
        edges.at("0 when it is empty", ReadWordEdgesTest::emptyFrame);
        edges.at("0 when there is no such word", ReadWordEdgesTest::noSuchWord);
        edges.at("0 when there is neither", ReadWordEdgesTest::neither);
        edges.at("leaves all as it was", ReadWordEdgesTest::leavesAll);
        edges.end();
    }

    private static void everyPlace(Due due) {
        for (int words = 1; words <= 8; words++) {
            FramePool pool = Pools.written(3, 5, words);
            for (int f = 0; f < 3; f++) {
                for (int off = 0; off < words; off++) {
                    due.is("readWord(" + f + ", " + off + ") of " + words,
                        pool.readWord(f, off), Pools.word(f, off));
                }
            }
        }
    }

    private static void greatest(Due due) {
        FramePool pool = Pools.written(32, 200, 8);
        due.is("readWord(0, 0)", pool.readWord(0, 0), Pools.word(0, 0));
        due.is("readWord(31, 7)", pool.readWord(31, 7), Pools.word(31, 7));
    }

    private static void notTheDisks(Due due) {
        FramePool pool = Pools.written(1, 5, 1);
        due.is("readWord(0, 0)", pool.readWord(0, 0), Pools.word(0, 0));
        pool.flush(0);
        pool.writeWord(0, 0, 7);
        due.is("readWord(0, 0) behind a flush", pool.readWord(0, 0), 7);
    }

    private static void noSuchFrame(Due due) {
        FramePool pool = Pools.written(3, 5, 8);
        for (int f : Pools.outside(3)) {
            due.is("readWord(" + f + ", 0) of 3", pool.readWord(f, 0), 0);
            due.is("readWord(" + f + ", 7) of 3", pool.readWord(f, 7), 0);
        }
    }

    private static void noPins(Due due) {
        FramePool pool = Pools.written(3, 5, 2);
        pool.fetch(1);
        pool.unpin(1);
        due.is("readWord(1, 0) with a pin left", pool.readWord(1, 0), Pools.word(1, 0));
        pool.unpin(1);
        due.is("readWord(1, 0) without pins", pool.readWord(1, 0), 0);
        due.is("readWord(1, 1) without pins", pool.readWord(1, 1), 0);
    }

    private static void emptyFrame(Due due) {
        FramePool pool = Pools.written(2, 5, 2);
        pool.unpin(0);
        pool.drop(0);
        due.is("readWord(0, 0) after drop", pool.readWord(0, 0), 0);
        due.is("readWord(0, 1) after drop", pool.readWord(0, 1), 0);
        due.is("readWord(0, 0) when new", new FramePool(2, 5, 2).readWord(0, 0), 0);
    }

    // A frame stands on either side, so that a step too far would meet a word that is not 0.
    private static void noSuchWord(Due due) {
        int[] counts = {1, 2, 7, 8};
        for (int words : counts) {
            FramePool pool = Pools.written(3, 5, words);
            for (int off : Pools.outside(words)) {
                due.is("readWord(1, " + off + ") of " + words, pool.readWord(1, off), 0);
            }
        }
    }

    private static void neither(Due due) {
        FramePool pool = Pools.written(3, 5, 2);
        due.is("readWord(-1, 2)", pool.readWord(-1, 2), 0);
        due.is("readWord(-1, 4)", pool.readWord(-1, 4), 0);
        due.is("readWord(3, -1)", pool.readWord(3, -1), 0);
        due.is("readWord(3, -2)", pool.readWord(3, -2), 0);
        due.is("readWord(1 << 30, 1 << 30)", pool.readWord(1 << 30, 1 << 30), 0);
    }

    private static void leavesAll(Due due) {
        FramePool pool = Pools.mixed();
        for (int f = -1; f <= 3; f++) {
            for (int off = -1; off <= 2; off++) {
                pool.readWord(f, off);
            }
        }
        Pools.stillMixed(due, pool);
    }
}
