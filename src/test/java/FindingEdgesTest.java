/** The edges of "Terms": how pages and frames are numbered, and how a frame is found. */
public final class FindingEdgesTest {
    public static void main(String[] args) {
        Edges edges = new Edges("Terms");
        numbersAndHand(edges);
        whatTheHandLooksAt(edges);
        whatIsFound(edges);
        edges.end();
    }

    private static void numbersAndHand(Edges edges) {
        edges.at("PAGES numbered from 0", FindingEdgesTest::pagesFrom0);
        edges.at("FRAME numbered from 0", FindingEdgesTest::framesFrom0);
        edges.at("THE HAND stands at 0 at first", FindingEdgesTest::handAt0);
        edges.at("the hand's frame is looked at", FindingEdgesTest::theHandsFrame);
        edges.at("the hand goes on to the next one", FindingEdgesTest::next);
        edges.at("behind the last one the first: the last is found", FindingEdgesTest::lastFound);
        edges.at("behind the last one the first: the last is left", FindingEdgesTest::lastLeft);
        edges.at("behind the last one the first: a mark goes at the last",
            FindingEdgesTest::lastMarked);
        edges.at("behind the last one the first: one frame alone", FindingEdgesTest::oneFrame);
    }

    private static void whatTheHandLooksAt(Edges edges) {
        edges.at("when some frame has no pins: only one", FindingEdgesTest::oneWithoutPins);
        edges.at("when some frame has no pins: the one behind the hand, of 32",
            FindingEdgesTest::behindTheHand);
        edges.at("empty ones have none: the only one", FindingEdgesTest::oneEmpty);
        edges.at("with pins it is left", FindingEdgesTest::withPins);
        edges.at("with pins it is left: several pins, one taken", FindingEdgesTest::severalPins);
        edges.at("empty, it is found", FindingEdgesTest::empty);
        edges.at("empty, it is found: not before the hand comes", FindingEdgesTest::emptyLater);
        edges.at("with a mark, the mark goes", FindingEdgesTest::markGoes);
        edges.at("with a mark, the mark goes: of dirty ones too, unwritten",
            FindingEdgesTest::dirtyMark);
        edges.at("with a mark, the mark goes: all have one", FindingEdgesTest::allMarked);
        edges.at("with a mark, the mark goes: all 32 have one", FindingEdgesTest::all32Marked);
        edges.at("with a mark, the mark goes: only where the hand looks",
            FindingEdgesTest::marksNotLookedAt);
    }

    private static void whatIsFound(Edges edges) {
        edges.at("otherwise it is found", FindingEdgesTest::found);
        edges.at("if it is dirty, its page is written", FindingEdgesTest::dirtyFound);
        edges.at("if it is dirty, (a WRITE)", FindingEdgesTest::aWrite);
        edges.at("if it is dirty: a clean one is not written", FindingEdgesTest::cleanFound);
        edges.at("if it is dirty: flushed, it is not written again", FindingEdgesTest::flushed);
        edges.at("if it is dirty: only the found one is written", FindingEdgesTest::onlyTheFound);
        edges.at("it is empty then", FindingEdgesTest::emptyThen);
    }

    private static void pagesFrom0(Due due) {
        FramePool pool = new FramePool(2, 5, 1);
        due.is("fetch(0), the first", pool.fetch(0), 0);
        due.is("fetch(4), the last", pool.fetch(4), 1);
        due.is("told(0, 0)", pool.told(0, 0), 0);
        due.is("fetch(5), behind the last", pool.fetch(5), FramePool.BAD_PAGE);
    }

    private static void framesFrom0(Due due) {
        FramePool pool = new FramePool(2, 5, 1);
        due.is("told(0, 0), the first", pool.told(0, 0), -1);
        due.is("told(1, 0), the last", pool.told(1, 0), -1);
        due.is("told(2, 0), behind the last", pool.told(2, 0), -5);
    }

    private static void handAt0(Due due) {
        FramePool pool = new FramePool(3, 5, 1);
        due.is("hand()", pool.hand(), 0);
        due.is("fetch(4)", pool.fetch(4), 0);
    }

    /** All pinned, page n + f in the frames before the hand, page f in the others. */
    private static FramePool pinnedWithHandAt(int hand, int n) {
        FramePool pool = Pools.pinned(n, 200, 1);
        for (int f = 0; f < hand; f++) {
            pool.unpin(f);
            pool.fetch(n + f);
        }
        return pool;
    }

    private static void theHandsFrame(Due due) {
        for (int hand = 0; hand < 4; hand++) {
            FramePool pool = pinnedWithHandAt(hand, 4);
            for (int f = 0; f < 4; f++) {
                pool.unpin(f);
                pool.drop(pool.told(f, 0));
            }
            due.is("hand()", pool.hand(), hand);
            due.is("fetch(100) with the hand at " + hand, pool.fetch(100), hand);
        }
    }

    private static void next(Due due) {
        FramePool pool = new FramePool(4, 9, 1);
        for (int f = 0; f < 3; f++) {
            due.is("fetch(" + f + ")", pool.fetch(f), f);
            due.is("hand() behind frame " + f, pool.hand(), f + 1);
        }
    }

    private static void lastFound(Due due) {
        int[] counts = {2, 3, 31, 32};
        for (int frames : counts) {
            FramePool pool = new FramePool(frames, 200, 1);
            for (int f = 0; f < frames - 1; f++) {
                pool.fetch(f);
            }
            due.is("hand() at the last of " + frames, pool.hand(), frames - 1);
            due.is("fetch(100)", pool.fetch(100), frames - 1);
            due.is("hand() behind the last of " + frames, pool.hand(), 0);
        }
    }

    private static void lastLeft(Due due) {
        FramePool pool = pinnedWithHandAt(2, 3);
        pool.unpin(0);
        pool.drop(3);
        due.is("hand() at the last", pool.hand(), 2);
        due.is("fetch(100)", pool.fetch(100), 0);
        due.is("hand()", pool.hand(), 1);
        due.frame("the last", pool, 2, 2, 1, 0, 1);
    }

    private static void lastMarked(Due due) {
        FramePool pool = pinnedWithHandAt(2, 3);
        pool.unpin(2);
        pool.unpin(0);
        pool.drop(3);
        due.is("fetch(100)", pool.fetch(100), 0);
        due.is("hand()", pool.hand(), 1);
        due.frame("the last", pool, 2, 2, 0, 0, 0);
    }

    private static void oneFrame(Due due) {
        FramePool pool = new FramePool(1, 9, 1);
        for (int page = 0; page < 9; page++) {
            due.is("fetch(" + page + ")", pool.fetch(page), 0);
            due.is("hand()", pool.hand(), 0);
            due.frame("the one frame", pool, 0, page, 1, 0, 1);
            pool.unpin(0);
        }
    }

    private static void oneWithoutPins(Due due) {
        for (int hand = 0; hand < 5; hand++) {
            for (int free = 0; free < 5; free++) {
                FramePool pool = pinnedWithHandAt(hand, 5);
                String when = "hand at " + hand + ", frame " + free + " without pins: ";
                pool.unpin(free);
                due.is(when + "fetch(100)", pool.fetch(100), free);
                due.is(when + "hand()", pool.hand(), (free + 1) % 5);
                due.is(when + "pinned()", pool.pinned(), 5);
            }
        }
    }

    // The longest way there is: past 31 pinned ones, the mark goes, and the same way once more.
    private static void behindTheHand(Due due) {
        int[] hands = {0, 1, 16, 31};
        for (int hand : hands) {
            FramePool pool = pinnedWithHandAt(hand, 32);
            int free = (hand + 31) % 32;
            pool.unpin(free);
            due.is("hand() before", pool.hand(), hand);
            due.is("fetch(100) with the hand at " + hand, pool.fetch(100), free);
            due.is("hand() after", pool.hand(), hand);
            due.frame("found", pool, free, 100, 1, 0, 1);
        }
    }

    private static void oneEmpty(Due due) {
        for (int hand = 0; hand < 5; hand++) {
            for (int free = 0; free < 5; free++) {
                FramePool pool = pinnedWithHandAt(hand, 5);
                pool.unpin(free);
                pool.drop(pool.told(free, 0));
                due.is("fetch(100), hand at " + hand + ", frame " + free + " empty",
                    pool.fetch(100), free);
                due.is("hand()", pool.hand(), (free + 1) % 5);
            }
        }
    }

    private static void withPins(Due due) {
        FramePool pool = Pools.pinned(4, 9, 1);
        pool.writeWord(1, 0, 7);
        pool.unpin(3);
        due.is("fetch(8)", pool.fetch(8), 3);
        due.frame("left, clean", pool, 0, 0, 1, 0, 1);
        due.frame("left, dirty", pool, 1, 1, 1, 1, 1);
        due.frame("left, clean", pool, 2, 2, 1, 0, 1);
        due.is("readWord(1, 0)", pool.readWord(1, 0), 7);
        due.is("diskWrites()", pool.diskWrites(), 0);
    }

    private static void severalPins(Due due) {
        FramePool pool = Pools.pinned(2, 9, 1);
        pool.fetch(0);
        pool.unpin(0);
        pool.unpin(1);
        due.is("fetch(8)", pool.fetch(8), 1);
        due.frame("left with the pin it has", pool, 0, 0, 1, 0, 1);
    }

    private static void empty(Due due) {
        FramePool pool = Pools.resting(3, 9, 1);
        pool.drop(0);
        due.is("fetch(8)", pool.fetch(8), 0);
        due.is("hand()", pool.hand(), 1);
        due.frame("not looked at", pool, 1, 1, 0, 0, 1);
        due.frame("not looked at", pool, 2, 2, 0, 0, 1);
        due.is("diskWrites()", pool.diskWrites(), 0);
    }

    private static void emptyLater(Due due) {
        FramePool pool = Pools.resting(4, 9, 1);
        pool.fetch(8);
        pool.drop(3);
        due.is("fetch(7): frame 1, without a mark, comes first", pool.fetch(7), 1);
        due.emptyFrame("still", pool, 3);
        due.is("fetch(6): frame 2, without a mark, comes first", pool.fetch(6), 2);
        due.is("fetch(5): the empty one", pool.fetch(5), 3);
    }

    private static void markGoes(Due due) {
        FramePool pool = Pools.resting(3, 9, 1);
        pool.drop(2);
        due.is("fetch(8)", pool.fetch(8), 2);
        due.frame("only its mark went", pool, 0, 0, 0, 0, 0);
        due.frame("only its mark went", pool, 1, 1, 0, 0, 0);
        due.is("hand()", pool.hand(), 0);
    }

    private static void dirtyMark(Due due) {
        FramePool pool = Pools.written(2, 9, 1);
        pool.unpin(0);
        pool.unpin(1);
        pool.drop(1);
        due.is("fetch(8)", pool.fetch(8), 1);
        due.frame("only its mark went", pool, 0, 0, 0, 1, 0);
        due.is("diskWrites()", pool.diskWrites(), 0);
        due.is("diskWord(0, 0)", pool.diskWord(0, 0), 0);
    }

    private static void allMarked(Due due) {
        for (int hand = 0; hand < 4; hand++) {
            FramePool pool = pinnedWithHandAt(hand, 4);
            for (int f = 0; f < 4; f++) {
                pool.unpin(f);
            }
            due.is("fetch(100), hand at " + hand, pool.fetch(100), hand);
            due.is("hand()", pool.hand(), (hand + 1) % 4);
            for (int f = 0; f < 4; f++) {
                due.is("mark of frame " + f, pool.told(f, 3), f == hand ? 1 : 0);
            }
        }
    }

    private static void all32Marked(Due due) {
        FramePool pool = Pools.resting(32, 200, 1);
        due.is("fetch(100)", pool.fetch(100), 0);
        due.is("hand()", pool.hand(), 1);
        for (int f = 1; f < 32; f++) {
            due.frame("only its mark went", pool, f, f, 0, 0, 0);
        }
    }

    private static void marksNotLookedAt(Due due) {
        FramePool pool = Pools.resting(4, 9, 1);
        pool.drop(1);
        due.is("fetch(8)", pool.fetch(8), 1);
        due.is("looked at: told(0, 3)", pool.told(0, 3), 0);
        due.is("not looked at: told(2, 3)", pool.told(2, 3), 1);
        due.is("not looked at: told(3, 3)", pool.told(3, 3), 1);
    }

    private static void found(Due due) {
        FramePool pool = Pools.resting(3, 9, 1);
        pool.fetch(8);
        due.is("hand() at a frame without pins and mark", pool.hand(), 1);
        due.is("fetch(7)", pool.fetch(7), 1);
        due.is("hand()", pool.hand(), 2);
        due.frame("not looked at", pool, 2, 2, 0, 0, 0);
        due.is("resident(2)", pool.resident(2), true);
    }

    /** One frame, with a page that is dirty in all its words, and without pins. */
    private static FramePool oneDirty(int page, int words) {
        FramePool pool = new FramePool(1, 9, words);
        pool.fetch(page);
        Pools.write(pool, 0, page, words);
        pool.unpin(0);
        return pool;
    }

    private static void dirtyFound(Due due) {
        int[] pages = {0, 5, 8};
        for (int page : pages) {
            FramePool pool = oneDirty(page, 8);
            pool.fetch(3);
            for (int other = 0; other < 9; other++) {
                for (int off = 0; off < 8; off++) {
                    due.is("diskWord(" + other + ", " + off + ") when " + page + " went",
                        pool.diskWord(other, off), other == page ? Pools.word(page, off) : 0);
                }
            }
        }
    }

    private static void aWrite(Due due) {
        FramePool pool = oneDirty(5, 2);
        due.is("diskWrites() before", pool.diskWrites(), 0);
        pool.fetch(3);
        due.is("diskWrites() after", pool.diskWrites(), 1);
    }

    private static void cleanFound(Due due) {
        FramePool pool = Pools.resting(1, 9, 2);
        pool.fetch(3);
        due.is("diskWrites()", pool.diskWrites(), 0);
    }

    private static void flushed(Due due) {
        FramePool pool = oneDirty(5, 2);
        pool.flush(5);
        pool.fetch(3);
        due.is("diskWrites()", pool.diskWrites(), 1);
    }

    private static void onlyTheFound(Due due) {
        FramePool pool = Pools.written(3, 9, 1);
        for (int f = 0; f < 3; f++) {
            pool.unpin(f);
        }
        due.is("fetch(8)", pool.fetch(8), 0);
        due.is("diskWrites()", pool.diskWrites(), 1);
        due.frame("still dirty", pool, 1, 1, 0, 1, 0);
        due.frame("still dirty", pool, 2, 2, 0, 1, 0);
        due.is("diskWord(1, 0)", pool.diskWord(1, 0), 0);
        due.is("diskWord(2, 0)", pool.diskWord(2, 0), 0);
    }

    private static void emptyThen(Due due) {
        FramePool pool = oneDirty(5, 3);
        due.is("fetch(3)", pool.fetch(3), 0);
        due.is("resident(5), which was there", pool.resident(5), false);
        due.frame("nothing is left of it", pool, 0, 3, 1, 0, 1);
        for (int off = 0; off < 3; off++) {
            due.is("readWord(0, " + off + ")", pool.readWord(0, off), 0);
        }
    }
}
