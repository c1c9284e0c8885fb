import java.util.ArrayList;
import java.util.List;
import java.util.function.ToIntFunction;

/** A call with its arguments, for a FramePool and for the Model (a boolean counts 1 or 0). */
record Call(String text, ToIntFunction<FramePool> onPool, ToIntFunction<Model> onModel) {

    /** Every call that may change something: each number from just below the good ones to just behind. */
    static List<Call> changes(int frames, int pages, int words, int[] written) {
        List<Call> calls = new ArrayList<>();
        calls.add(new Call("init()", Call::init, Call::init));
        calls.add(new Call("flushAll()", FramePool::flushAll, Model::flushAll));
        for (int p = -1; p <= pages; p++) {
            int page = p;
            calls.add(new Call("fetch(" + page + ")", x -> x.fetch(page), x -> x.fetch(page)));
            calls.add(new Call("flush(" + page + ")", x -> x.flush(page), x -> x.flush(page)));
            calls.add(new Call("drop(" + page + ")",
                x -> number(x.drop(page)), x -> number(x.drop(page))));
            for (int other = -1; other <= pages; other++) {
                int from = other;
                calls.add(new Call("copy(" + page + ", " + from + ")",
                    x -> x.copy(page, from), x -> x.copy(page, from)));
            }
        }
        for (int number = -1; number <= frames; number++) {
            int f = number;
            calls.add(new Call("unpin(" + f + ")", x -> x.unpin(f), x -> x.unpin(f)));
            for (int w : written) {
                addWrites(calls, f, words, w);
            }
        }
        return calls;
    }

    private static void addWrites(List<Call> calls, int f, int words, int w) {
        for (int place = -1; place <= words; place++) {
            int off = place;
            calls.add(new Call("writeWord(" + f + ", " + off + ", " + w + ")",
                x -> x.writeWord(f, off, w), x -> x.writeWord(f, off, w)));
        }
    }

    /** Every call that only tells, with the same numbers. */
    static List<Call> asks(int frames, int pages, int words) {
        List<Call> calls = new ArrayList<>();
        calls.add(new Call("hand()", FramePool::hand, x -> x.hand));
        calls.add(new Call("pinned()", FramePool::pinned, Model::pinned));
        calls.add(new Call("diskReads()", FramePool::diskReads, x -> x.reads));
        calls.add(new Call("diskWrites()", FramePool::diskWrites, x -> x.writes));
        for (int number = -1; number <= frames; number++) {
            addAsksOfFrame(calls, number, words);
        }
        for (int number = -1; number <= pages; number++) {
            addAsksOfPage(calls, number, words);
        }
        return calls;
    }

    private static void addAsksOfFrame(List<Call> calls, int f, int words) {
        for (int kind = -1; kind <= 4; kind++) {
            int what = kind;
            calls.add(new Call("told(" + f + ", " + what + ")",
                x -> x.told(f, what), x -> x.told(f, what)));
        }
        for (int place = -1; place <= words; place++) {
            int off = place;
            calls.add(new Call("readWord(" + f + ", " + off + ")",
                x -> x.readWord(f, off), x -> x.readWord(f, off)));
        }
    }

    private static void addAsksOfPage(List<Call> calls, int page, int words) {
        calls.add(new Call("resident(" + page + ")",
            x -> number(x.resident(page)), x -> number(x.where(page) >= 0)));
        for (int place = -1; place <= words; place++) {
            int off = place;
            calls.add(new Call("diskWord(" + page + ", " + off + ")",
                x -> x.diskWord(page, off), x -> x.diskWord(page, off)));
        }
    }

    private static int init(FramePool pool) {
        pool.init();
        return 0;
    }

    private static int init(Model model) {
        model.init();
        return 0;
    }

    private static int number(boolean answer) {
        return answer ? 1 : 0;
    }
}
