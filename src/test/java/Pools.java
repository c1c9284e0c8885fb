/** Pools in the states that many boundary cases begin with. */
final class Pools {
    /** Numbers that no page, frame or offset has when there are so many of them. */
    static int[] outside(int count) {
        return new int[] {
            -1, -2, count, count + 1, 255, 256, 65536, 1 << 28, 1 << 29, 1 << 30, -count, -(1 << 29),
            Integer.MIN_VALUE, Integer.MIN_VALUE + 1, Integer.MAX_VALUE - 1, Integer.MAX_VALUE};
    }

    /** Page f in frame f, each with one pin, the hand at 0 again. */
    static FramePool pinned(int frames, int pages, int words) {
        FramePool pool = new FramePool(frames, pages, words);
        for (int f = 0; f < frames; f++) {
            pool.fetch(f);
        }
        return pool;
    }

    /** Page f in frame f, each without pins and with its mark, the hand at 0 again. */
    static FramePool resting(int frames, int pages, int words) {
        FramePool pool = pinned(frames, pages, words);
        for (int f = 0; f < frames; f++) {
            pool.unpin(f);
        }
        return pool;
    }

    /** A word that differs for every place of every page, and is never 0. */
    static int word(int page, int off) {
        return 1000 + 10 * page + off;
    }

    static void write(FramePool pool, int f, int page, int words) {
        for (int off = 0; off < words; off++) {
            pool.writeWord(f, off, word(page, off));
        }
    }

    /** Page f in frame f, pinned and dirty, no word of them 0, the disk still all 0. */
    static FramePool written(int frames, int pages, int words) {
        FramePool pool = pinned(frames, pages, words);
        for (int f = 0; f < frames; f++) {
            write(pool, f, f, words);
        }
        return pool;
    }

    /** A disk without a word that is 0, so that a step beyond an edge is seen; all frames empty. */
    static FramePool fullDisk(int frames, int pages, int words) {
        FramePool pool = new FramePool(frames, pages, words);
        for (int page = 0; page < pages; page++) {
            int f = pool.fetch(page);
            write(pool, f, page, words);
            pool.flush(page);
            pool.unpin(f);
            pool.drop(page);
        }
        return pool;
    }

    /** Page 4 in frame 0, pinned and dirty; page 3 in frame 1, without pins; frame 2 empty. */
    static FramePool mixed() {
        FramePool pool = new FramePool(3, 5, 2);
        pool.fetch(4);
        pool.fetch(3);
        write(pool, 0, 4, 2);
        pool.unpin(1);
        return pool;
    }

    /** Held against numbers, since a text of the state is made by the very calls in question. */
    static void stillMixed(Due due, FramePool pool) {
        due.frame("as it was", pool, 0, 4, 1, 1, 1);
        due.frame("as it was", pool, 1, 3, 0, 0, 1);
        due.emptyFrame("as it was", pool, 2);
        due.is("hand()", pool.hand(), 2);
        due.is("pinned()", pool.pinned(), 1);
        due.is("diskReads()", pool.diskReads(), 2);
        due.is("diskWrites()", pool.diskWrites(), 0);
        due.is("readWord(0, 0)", pool.readWord(0, 0), word(4, 0));
        due.is("readWord(0, 1)", pool.readWord(0, 1), word(4, 1));
        due.is("diskWord(4, 0)", pool.diskWord(4, 0), 0);
    }

    /** All that a pool tells of itself as one text: for calls that must leave all as it was. */
    static String state(FramePool pool, int frames, int pages, int words) {
        StringBuilder text = new StringBuilder();
        for (int f = 0; f < frames; f++) {
            for (int what = 0; what < 4; what++) {
                text.append(pool.told(f, what)).append(' ');
            }
            for (int off = 0; off < words; off++) {
                text.append(pool.readWord(f, off)).append(' ');
            }
        }
        for (int page = 0; page < pages; page++) {
            text.append(pool.resident(page) ? "in " : "out ");
            for (int off = 0; off < words; off++) {
                text.append(pool.diskWord(page, off)).append(' ');
            }
        }
        return text.append("hand ").append(pool.hand()).append(" pinned ").append(pool.pinned())
            .append(" reads ").append(pool.diskReads())
            .append(" writes ").append(pool.diskWrites()).toString();
    }

    private Pools() {
    }
}
