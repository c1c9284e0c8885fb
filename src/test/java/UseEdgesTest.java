/** The edges of "What it is" (512 calls) and of "The public face" (the constants). */
public final class UseEdgesTest {
    public static void main(String[] args) {
        Edges edges = new Edges("What it is, The public face");
        edges.at("512 calls: 511 pins are counted, and told by the last", UseEdgesTest::pins);
        edges.at("512 calls: the last one takes the last pin", UseEdgesTest::lastPin);
        edges.at("512 calls: the last one finds a frame", UseEdgesTest::lastFetch);
        edges.at("512 calls: the last one tells every WRITE", UseEdgesTest::lastWrites);
        edges.at("512 calls: the last one comes behind 511 times init", UseEdgesTest::inits);
        edges.at("512 calls: refused ones are no harm", UseEdgesTest::refused);
        edges.at("ALL_PINNED = -1", UseEdgesTest::allPinned);
        edges.at("BAD_PAGE = -2", UseEdgesTest::badPage);
        edges.at("NOT_PINNED = -3", UseEdgesTest::notPinned);
        edges.at("BAD_OFFSET = -4", UseEdgesTest::badOffset);
        edges.end();
    }

    private static void pins(Due due) {
        FramePool pool = new FramePool(2, 5, 2);
        for (int call = 1; call <= 511; call++) {
            due.is("fetch(3), call " + call, pool.fetch(3), 0);
        }
        due.is("told(0, 1), call 512", pool.told(0, 1), 511);
    }

    private static void lastPin(Due due) {
        FramePool pool = new FramePool(2, 5, 2);
        for (int call = 1; call <= 256; call++) {
            pool.fetch(3);
        }
        for (int left = 255; left >= 0; left--) {
            due.is("unpin(0), call " + (512 - left), pool.unpin(0), left);
        }
    }

    private static void lastFetch(Due due) {
        FramePool pool = new FramePool(2, 200, 1);
        for (int i = 0; i < 255; i++) {
            due.is("fetch(" + i % 200 + ")", pool.fetch(i % 200), i % 2);
            due.is("unpin(" + i % 2 + ")", pool.unpin(i % 2), 0);
        }
        due.is("diskReads(), call 511", pool.diskReads(), 255);
        due.is("fetch(55), call 512", pool.fetch(55), 1);
    }

    private static void lastWrites(Due due) {
        FramePool pool = new FramePool(1, 200, 1);
        for (int page = 0; page < 170; page++) {
            pool.fetch(page);
            pool.writeWord(0, 0, page);
            pool.unpin(0);
        }
        due.is("fetch(170), call 511", pool.fetch(170), 0);
        due.is("diskWrites(), call 512", pool.diskWrites(), 170);
    }

    private static void inits(Due due) {
        FramePool pool = new FramePool(2, 5, 2);
        for (int call = 1; call <= 511; call++) {
            pool.init();
        }
        due.is("fetch(4), call 512", pool.fetch(4), 0);
    }

    private static void refused(Due due) {
        FramePool pool = new FramePool(1, 2, 1);
        pool.fetch(1);
        for (int call = 2; call <= 511; call++) {
            due.is("fetch(0), call " + call, pool.fetch(0), -1);
        }
        due.is("unpin(0), call 512", pool.unpin(0), 0);
    }

    private static void allPinned(Due due) {
        due.is("ALL_PINNED", FramePool.ALL_PINNED, -1);
        due.is("fetch(1)", Pools.pinned(1, 2, 1).fetch(1), -1);
    }

    private static void badPage(Due due) {
        due.is("BAD_PAGE", FramePool.BAD_PAGE, -2);
        due.is("fetch(2)", new FramePool(1, 2, 1).fetch(2), -2);
        due.is("copy(2, 0)", new FramePool(1, 2, 1).copy(2, 0), -2);
    }

    private static void notPinned(Due due) {
        due.is("NOT_PINNED", FramePool.NOT_PINNED, -3);
        due.is("unpin(0)", new FramePool(1, 2, 1).unpin(0), -3);
        due.is("writeWord(0, 0, 1)", new FramePool(1, 2, 1).writeWord(0, 0, 1), -3);
        due.is("copy(0, 1)", new FramePool(1, 2, 1).copy(0, 1), -3);
    }

    private static void badOffset(Due due) {
        due.is("BAD_OFFSET", FramePool.BAD_OFFSET, -4);
        due.is("writeWord(0, 1, 1)", Pools.pinned(1, 2, 1).writeWord(0, 1, 1), -4);
    }
}
