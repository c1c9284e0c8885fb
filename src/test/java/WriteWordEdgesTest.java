/** The edges of promise 6, writeWord. */
public final class WriteWordEdgesTest {
    public static void main(String[] args) {
        Edges edges = new Edges("Promise 6");
        edges.at("A word becomes w: the first and the last", WriteWordEdgesTest::firstAndLast);
        edges.at("A word becomes w: no other word", WriteWordEdgesTest::noOtherWord);
        edges.at("A word becomes w: the smallest, the greatest, 0", WriteWordEdgesTest::anyInt);
        edges.at("it is dirty", WriteWordEdgesTest::dirty);
        edges.at("it is dirty: the word it had", WriteWordEdgesTest::sameWord);
        edges.at("it is dirty: again behind a flush", WriteWordEdgesTest::dirtyAgain);
        edges.at("it is dirty: no other frame", WriteWordEdgesTest::noOtherFrame);
        edges.at("NOT_PINNED when there is no such frame", WriteWordEdgesTest::noSuchFrame);
        edges.at("NOT_PINNED when it has no pins", WriteWordEdgesTest::noPins);
        edges.at("NOT_PINNED when it is empty", WriteWordEdgesTest::emptyFrame);
        edges.at("BAD_OFFSET when there is no such word", WriteWordEdgesTest::noSuchWord);
        edges.at("NOT_PINNED when there is neither", WriteWordEdgesTest::neither);
        edges.at("NOT_PINNED leaves all as it was", WriteWordEdgesTest::notPinnedLeavesAll);
        edges.at("BAD_OFFSET leaves all as it was", WriteWordEdgesTest::badOffsetLeavesAll);
        edges.end();
    }

    private static void firstAndLast(Due due) {
        FramePool pool = Pools.pinned(32, 200, 8);
        due.is("writeWord(0, 0, 5)", pool.writeWord(0, 0, 5), 0);
        due.is("writeWord(31, 7, 6)", pool.writeWord(31, 7, 6), 0);
        due.is("readWord(0, 0)", pool.readWord(0, 0), 5);
        due.is("readWord(31, 7)", pool.readWord(31, 7), 6);
    }

    private static void noOtherWord(Due due) {
        for (int place = 0; place < 3; place++) {
            FramePool pool = Pools.pinned(3, 5, 3);
            pool.writeWord(1, place, 5);
            for (int f = 0; f < 3; f++) {
                for (int off = 0; off < 3; off++) {
                    due.is("readWord(" + f + ", " + off + ")",
                        pool.readWord(f, off), f == 1 && off == place ? 5 : 0);
                }
            }
        }
    }

    private static void anyInt(Due due) {
        int[] words = {Integer.MIN_VALUE, -5, -4, -3, -2, -1, 1, 65536, Integer.MAX_VALUE, 0};
        FramePool pool = Pools.pinned(1, 5, 1);
        for (int w : words) {
            due.is("writeWord(0, 0, " + w + ")", pool.writeWord(0, 0, w), 0);
            due.is("readWord(0, 0)", pool.readWord(0, 0), w);
        }
    }

    private static void dirty(Due due) {
        FramePool pool = Pools.pinned(2, 5, 2);
        due.is("told(1, 2) before", pool.told(1, 2), 0);
        pool.writeWord(1, 1, 5);
        due.frame("written to", pool, 1, 1, 1, 1, 1);
        due.is("diskWord(1, 1)", pool.diskWord(1, 1), 0);
        due.is("diskWrites()", pool.diskWrites(), 0);
    }

    private static void sameWord(Due due) {
        FramePool pool = Pools.pinned(1, 5, 1);
        due.is("writeWord(0, 0, 0)", pool.writeWord(0, 0, 0), 0);
        due.is("told(0, 2)", pool.told(0, 2), 1);
    }

    private static void dirtyAgain(Due due) {
        FramePool pool = Pools.written(1, 5, 1);
        pool.flush(0);
        due.is("told(0, 2) behind a flush", pool.told(0, 2), 0);
        pool.writeWord(0, 0, 5);
        due.is("told(0, 2)", pool.told(0, 2), 1);
    }

    private static void noOtherFrame(Due due) {
        FramePool pool = Pools.pinned(3, 5, 1);
        pool.writeWord(1, 0, 5);
        due.is("told(0, 2)", pool.told(0, 2), 0);
        due.is("told(1, 2)", pool.told(1, 2), 1);
        due.is("told(2, 2)", pool.told(2, 2), 0);
    }

    private static void noSuchFrame(Due due) {
        FramePool pool = Pools.pinned(3, 5, 8);
        for (int f : Pools.outside(3)) {
            due.is("writeWord(" + f + ", 0, 5)", pool.writeWord(f, 0, 5), FramePool.NOT_PINNED);
            due.is("writeWord(" + f + ", 7, 5)", pool.writeWord(f, 7, 5), FramePool.NOT_PINNED);
        }
    }

    private static void noPins(Due due) {
        FramePool pool = Pools.pinned(2, 5, 1);
        pool.fetch(1);
        pool.unpin(1);
        due.is("writeWord(1, 0, 5) with a pin left", pool.writeWord(1, 0, 5), 0);
        pool.unpin(1);
        due.is("writeWord(1, 0, 6)", pool.writeWord(1, 0, 6), FramePool.NOT_PINNED);
        pool.fetch(1);
        due.is("readWord(1, 0)", pool.readWord(1, 0), 5);
    }

    private static void emptyFrame(Due due) {
        FramePool pool = new FramePool(2, 5, 1);
        due.is("writeWord(0, 0, 5) when new", pool.writeWord(0, 0, 5), FramePool.NOT_PINNED);
        due.emptyFrame("still", pool, 0);
        pool.fetch(3);
        pool.unpin(0);
        pool.drop(3);
        due.is("writeWord(0, 0, 5) after drop", pool.writeWord(0, 0, 5), FramePool.NOT_PINNED);
        due.emptyFrame("still", pool, 0);
    }

    private static void noSuchWord(Due due) {
        int[] counts = {1, 2, 7, 8};
        for (int words : counts) {
            FramePool pool = Pools.pinned(3, 5, words);
            for (int off : Pools.outside(words)) {
                due.is("writeWord(1, " + off + ", 5) of " + words,
                    pool.writeWord(1, off, 5), FramePool.BAD_OFFSET);
            }
        }
    }

    private static void neither(Due due) {
        FramePool pool = Pools.pinned(2, 5, 2);
        pool.unpin(0);
        due.is("writeWord(0, 2, 5) without pins", pool.writeWord(0, 2, 5), FramePool.NOT_PINNED);
        due.is("writeWord(2, 2, 5)", pool.writeWord(2, 2, 5), FramePool.NOT_PINNED);
        due.is("writeWord(-1, -1, 5)", pool.writeWord(-1, -1, 5), FramePool.NOT_PINNED);
    }

    private static void notPinnedLeavesAll(Due due) {
        FramePool pool = Pools.pinned(3, 5, 2);
        pool.unpin(1);
        String before = Pools.state(pool, 3, 5, 2);
        pool.writeWord(1, 0, 5);
        pool.writeWord(1, 1, 5);
        for (int f : Pools.outside(3)) {
            pool.writeWord(f, 0, 5);
        }
        due.is("the state", Pools.state(pool, 3, 5, 2), before);
        pool.fetch(1);
        due.is("readWord(1, 0)", pool.readWord(1, 0), 0);
        due.is("readWord(1, 1)", pool.readWord(1, 1), 0);
    }

    private static void badOffsetLeavesAll(Due due) {
        FramePool pool = Pools.pinned(3, 5, 2);
        String before = Pools.state(pool, 3, 5, 2);
        for (int off : Pools.outside(2)) {
            pool.writeWord(1, off, 5);
        }
        due.is("the state", Pools.state(pool, 3, 5, 2), before);
    }
}
