/**
 * A pool of frames over a disk of pages: pages are brought in, pinned, written to, written back
 * when they must go, the one to go found by a hand that goes round.
 */
public final class FramePool {
    public static final int ALL_PINNED = -1;
    public static final int BAD_PAGE = -2;
    public static final int NOT_PINNED = -3;
    public static final int BAD_OFFSET = -4;

    private static final int MOST_FRAMES = 32;
    private static final int MOST_PAGES = 200;
    private static final int MOST_WORDS = 8;

    private static final int NO_PAGE = -1;
    private static final int NO_FRAME = -1;
    private static final int NOT_TOLD = -5;

    private static final int TELL_PAGE = 0;
    private static final int TELL_PINS = 1;
    private static final int TELL_DIRTY = 2;
    private static final int TELL_MARK = 3;

    private final int frameCount;
    private final int pageCount;
    private final int wordCount;

    // Pages, and the pages in frames, lie one behind the other in a single row each:
    // a row per page would cost an object per page.
    private final int[] diskWords;
    private final int[] frameWords;

    private final int[] pageIn;
    private final int[] pins;
    private final boolean[] dirty;
    private final boolean[] marked;

    private int handAt;
    private int reads;
    private int writes;

    public FramePool(int frames, int pages, int pageWords) {
        frameCount = within(frames, MOST_FRAMES);
        pageCount = within(pages, MOST_PAGES);
        wordCount = within(pageWords, MOST_WORDS);
        diskWords = new int[pageCount * wordCount];
        frameWords = new int[frameCount * wordCount];
        pageIn = new int[frameCount];
        pins = new int[frameCount];
        dirty = new boolean[frameCount];
        marked = new boolean[frameCount];
        init();
    }

    public void init() {
        for (int f = 0; f < frameCount; f++) {
            makeEmpty(f);
        }
        for (int i = 0; i < diskWords.length; i++) {
            diskWords[i] = 0;
        }
        handAt = 0;
        reads = 0;
        writes = 0;
    }

    public int fetch(int page) {
        if (!isPage(page)) {
            return BAD_PAGE;
        }
        int f = frameOf(page);
        if (f == NO_FRAME) {
            f = findFrame();
            if (f == NO_FRAME) {
                return ALL_PINNED;
            }
            readInto(f, page);
        }
        pins[f]++;
        marked[f] = true;
        return f;
    }

    public int unpin(int f) {
        if (!isPinnedFrame(f)) {
            return NOT_PINNED;
        }
        pins[f]--;
        return pins[f];
    }

    public int readWord(int f, int off) {
        if (!isPinnedFrame(f) || !isOffset(off)) {
            return 0;
        }
        return frameWords[f * wordCount + off];
    }

    public int writeWord(int f, int off, int w) {
        if (!isPinnedFrame(f)) {
            return NOT_PINNED;
        }
        if (!isOffset(off)) {
            return BAD_OFFSET;
        }
        frameWords[f * wordCount + off] = w;
        dirty[f] = true;
        return 0;
    }

    public int flush(int page) {
        int f = frameOf(page);
        if (f == NO_FRAME || !dirty[f]) {
            return 0;
        }
        writeBack(f);
        return 1;
    }

    public int flushAll() {
        int written = 0;
        for (int f = 0; f < frameCount; f++) {
            if (dirty[f]) {
                writeBack(f);
                written++;
            }
        }
        return written;
    }

    public boolean drop(int page) {
        int f = frameOf(page);
        if (f == NO_FRAME || pins[f] > 0) {
            return false;
        }
        makeEmpty(f);
        return true;
    }

    public int copy(int page, int from) {
        if (!isPage(page) || !isPage(from)) {
            return BAD_PAGE;
        }
        int f = frameOf(page);
        if (!isPinnedFrame(f)) {
            return NOT_PINNED;
        }
        int source = frameOf(from);
        if (source == NO_FRAME) {
            copyWords(diskWords, from, frameWords, f);
        } else {
            copyWords(frameWords, source, frameWords, f);
        }
        dirty[f] = true;
        return 0;
    }

    public int diskWord(int page, int off) {
        if (!isPage(page) || !isOffset(off)) {
            return 0;
        }
        return diskWords[page * wordCount + off];
    }

    public boolean resident(int page) {
        return frameOf(page) != NO_FRAME;
    }

    public int diskReads() {
        return reads;
    }

    public int diskWrites() {
        return writes;
    }

    public int told(int f, int what) {
        if (!isFrame(f)) {
            return NOT_TOLD;
        }
        switch (what) {
            case TELL_PAGE:
                return pageIn[f];
            case TELL_PINS:
                return pins[f];
            case TELL_DIRTY:
                return dirty[f] ? 1 : 0;
            case TELL_MARK:
                return marked[f] ? 1 : 0;
            default:
                return NOT_TOLD;
        }
    }

    public int hand() {
        return handAt;
    }

    public int pinned() {
        int count = 0;
        for (int f = 0; f < frameCount; f++) {
            if (pins[f] > 0) {
                count++;
            }
        }
        return count;
    }

    private static int within(int wanted, int most) {
        return Math.max(1, Math.min(wanted, most));
    }

    private boolean isPage(int page) {
        return page >= 0 && page < pageCount;
    }

    private boolean isOffset(int off) {
        return off >= 0 && off < wordCount;
    }

    private boolean isFrame(int f) {
        return f >= 0 && f < frameCount;
    }

    private boolean isPinnedFrame(int f) {
        return isFrame(f) && pins[f] > 0;
    }

    private int frameOf(int page) {
        // Without this, a caller's -1 would be taken for the page of an empty frame.
        if (!isPage(page)) {
            return NO_FRAME;
        }
        for (int f = 0; f < frameCount; f++) {
            if (pageIn[f] == page) {
                return f;
            }
        }
        return NO_FRAME;
    }

    private int findFrame() {
        if (pinned() == frameCount) {
            return NO_FRAME;
        }
        // The first round may do no more than take marks away; the second one then finds a frame.
        for (int looks = 0; looks < 2 * frameCount; looks++) {
            int f = handAt;
            moveHand();
            if (givesWay(f)) {
                return f;
            }
        }
        return NO_FRAME;
    }

    private void moveHand() {
        handAt = handAt + 1 < frameCount ? handAt + 1 : 0;
    }

    /** Looks at a frame as the hand does: true when it is found, and it is empty then. */
    private boolean givesWay(int f) {
        if (pins[f] > 0) {
            return false;
        }
        if (pageIn[f] == NO_PAGE) {
            return true;
        }
        if (marked[f]) {
            marked[f] = false;
            return false;
        }
        if (dirty[f]) {
            writeBack(f);
        }
        makeEmpty(f);
        return true;
    }

    private void makeEmpty(int f) {
        pageIn[f] = NO_PAGE;
        pins[f] = 0;
        dirty[f] = false;
        marked[f] = false;
    }

    private void readInto(int f, int page) {
        copyWords(diskWords, page, frameWords, f);
        pageIn[f] = page;
        reads++;
    }

    private void writeBack(int f) {
        copyWords(frameWords, f, diskWords, pageIn[f]);
        dirty[f] = false;
        writes++;
    }

    private void copyWords(int[] source, int from, int[] target, int to) {
        System.arraycopy(source, from * wordCount, target, to * wordCount, wordCount);
    }
}
