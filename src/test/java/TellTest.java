/** Promise 12, resident; promise 15, told; promise 16, hand. */
public final class TellTest {
    private static final Due DUE = new Due("TellTest");

    public static void main(String[] args) {
        residentIsInAFrame();
        residentWithoutPage();
        toldOfEveryKind();
        toldOfNoFrameOrOthers();
        askingChangesNothing();
        theHandMovesOnlyToFind();
        DUE.end();
    }

    private static void residentIsInAFrame() {
        FramePool pool = new FramePool(2, 5, 1);
        DUE.is("resident(0) when new", pool.resident(0), false);
        pool.fetch(0);
        pool.fetch(4);
        DUE.is("resident(0)", pool.resident(0), true);
        DUE.is("resident(4)", pool.resident(4), true);
        DUE.is("resident(1)", pool.resident(1), false);
        pool.unpin(0);
        DUE.is("resident(0) without pins", pool.resident(0), true);
        pool.fetch(1);
        DUE.is("resident(0) after it went", pool.resident(0), false);
        DUE.is("resident(1) after it came", pool.resident(1), true);
        pool.unpin(1);
        pool.drop(4);
        DUE.is("resident(4) after drop", pool.resident(4), false);
    }

    private static void residentWithoutPage() {
        FramePool pool = new FramePool(2, 5, 1);
        int[] none = {-1, 5, 6, 200, Integer.MIN_VALUE, Integer.MAX_VALUE};
        for (int page : none) {
            DUE.is("resident(" + page + ")", pool.resident(page), false);
        }
    }

    private static void toldOfEveryKind() {
        FramePool pool = new FramePool(3, 9, 1);
        DUE.emptyFrame("new", pool, 0);
        pool.fetch(7);
        pool.fetch(7);
        pool.fetch(8);
        pool.writeWord(1, 0, 5);
        DUE.frame("two pins, clean", pool, 0, 7, 2, 0, 1);
        DUE.frame("one pin, dirty", pool, 1, 8, 1, 1, 1);
        DUE.emptyFrame("the last", pool, 2);
        pool.unpin(1);
        pool.fetch(0);
        pool.unpin(2);
        pool.fetch(1);
        DUE.frame("found in the second round", pool, 1, 1, 1, 0, 1);
        DUE.frame("the mark has gone", pool, 2, 0, 0, 0, 0);
    }

    private static void toldOfNoFrameOrOthers() {
        FramePool pool = new FramePool(3, 9, 1);
        pool.fetch(7);
        int[] noFrames = {-1, 3, 4, 32, Integer.MIN_VALUE, Integer.MAX_VALUE};
        for (int f : noFrames) {
            for (int what = -1; what <= 4; what++) {
                DUE.is("told(" + f + ", " + what + ")", pool.told(f, what), -5);
            }
        }
        int[] others = {-1, 4, 5, Integer.MIN_VALUE, Integer.MAX_VALUE};
        for (int what : others) {
            DUE.is("told(0, " + what + ")", pool.told(0, what), -5);
            DUE.is("told(2, " + what + ") of an empty one", pool.told(2, what), -5);
        }
    }

    private static void askingChangesNothing() {
        FramePool pool = new FramePool(2, 5, 1);
        pool.fetch(3);
        pool.writeWord(0, 0, 6);
        for (int times = 0; times < 2; times++) {
            DUE.frame("asked", pool, 0, 3, 1, 1, 1);
            DUE.emptyFrame("asked", pool, 1);
            DUE.is("resident(3)", pool.resident(3), true);
            DUE.is("hand()", pool.hand(), 1);
            DUE.is("pinned()", pool.pinned(), 1);
            DUE.is("diskReads()", pool.diskReads(), 1);
            DUE.is("diskWrites()", pool.diskWrites(), 0);
            DUE.is("diskWord(3, 0)", pool.diskWord(3, 0), 0);
            DUE.is("readWord(0, 0)", pool.readWord(0, 0), 6);
        }
    }

    private static void theHandMovesOnlyToFind() {
        FramePool pool = new FramePool(3, 9, 1);
        DUE.is("hand() when new", pool.hand(), 0);
        pool.fetch(7);
        DUE.is("hand() after fetch(7)", pool.hand(), 1);
        pool.fetch(7);
        pool.copy(7, 8);
        pool.flush(7);
        pool.writeWord(0, 0, 1);
        pool.flushAll();
        pool.unpin(0);
        pool.unpin(0);
        pool.drop(7);
        DUE.is("hand() after other calls", pool.hand(), 1);
        pool.fetch(7);
        DUE.is("hand() at the last", pool.hand(), 2);
        pool.fetch(8);
        DUE.is("hand() behind the last", pool.hand(), 0);
    }
}
