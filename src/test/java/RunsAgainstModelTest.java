import java.util.Random;

/**
 * Long runs of chosen-by-seed calls, every answer held against the Model. A run has 512 calls, the
 * last of them spent on the state as a whole: of later ones nothing is promised.
 */
public final class RunsAgainstModelTest {
    private static final Due DUE = new Due("RunsAgainstModelTest");
    private static final int CALLS = 512;
    private static final int RUNS = 4000;

    public static void main(String[] args) {
        for (int run = 0; run < RUNS; run++) {
            run(run);
        }
        DUE.end();
    }

    private static void run(int seed) {
        Random random = new Random(seed);
        boolean greatest = seed % 20 == 0;
        int frames = greatest ? 32 : 1 + random.nextInt(6);
        int pages = greatest ? 200 : 1 + random.nextInt(14);
        int words = greatest ? 8 : 1 + random.nextInt(4);
        FramePool pool = new FramePool(frames, pages, words);
        Model model = new Model(frames, pages, words);
        int forState = greatest ? 0 : 5 * frames + pages * (words + 1);
        for (int call = forState; call < CALLS; call++) {
            String at = "seed " + seed + ", call " + (call - forState);
            if (random.nextInt(300) == 0) {
                pool.init();
                model = new Model(frames, pages, words);
            } else if (random.nextInt(4) == 0) {
                ask(at, random, pool, model);
            } else {
                change(at, random, pool, model);
            }
        }
        if (!greatest) {
            sameState("seed " + seed + ", at the end", pool, model);
        }
    }

    // Most numbers are good ones, some lie just outside, a few far away.
    private static int number(Random random, int count) {
        int kind = random.nextInt(40);
        if (kind == 0) {
            return random.nextInt();
        }
        return kind <= 2 ? random.nextInt(count + 4) - 2 : random.nextInt(count);
    }

    private static void change(String at, Random random, FramePool pool, Model model) {
        int page = number(random, model.pages);
        int from = number(random, model.pages);
        int f = number(random, model.frames.size());
        int off = number(random, model.words);
        int w = random.nextInt();
        switch (random.nextInt(32)) {
            case 0, 1, 2, 3, 4, 5, 6, 7, 8, 9 ->
                DUE.is(at + ": fetch(" + page + ")", pool.fetch(page), model.fetch(page));
            case 10, 11, 12, 13, 14, 15, 16, 17, 18 ->
                DUE.is(at + ": unpin(" + f + ")", pool.unpin(f), model.unpin(f));
            case 19, 20, 21, 22, 23, 24 ->
                DUE.is(at + ": writeWord(" + f + ", " + off + ", " + w + ")",
                    pool.writeWord(f, off, w), model.writeWord(f, off, w));
            case 25, 26 ->
                DUE.is(at + ": flush(" + page + ")", pool.flush(page), model.flush(page));
            case 27, 28 ->
                DUE.is(at + ": drop(" + page + ")", pool.drop(page), model.drop(page));
            case 29, 30 ->
                DUE.is(at + ": copy(" + page + ", " + from + ")",
                    pool.copy(page, from), model.copy(page, from));
            default ->
                DUE.is(at + ": flushAll()", pool.flushAll(), model.flushAll());
        }
    }

    private static void ask(String at, Random random, FramePool pool, Model model) {
        int page = number(random, model.pages);
        int f = number(random, model.frames.size());
        int off = number(random, model.words);
        int what = number(random, 4);
        switch (random.nextInt(8)) {
            case 0 -> DUE.is(at + ": readWord(" + f + ", " + off + ")",
                pool.readWord(f, off), model.readWord(f, off));
            case 1 -> DUE.is(at + ": diskWord(" + page + ", " + off + ")",
                pool.diskWord(page, off), model.diskWord(page, off));
            case 2 -> DUE.is(at + ": told(" + f + ", " + what + ")",
                pool.told(f, what), model.told(f, what));
            case 3 -> DUE.is(at + ": resident(" + page + ")",
                pool.resident(page), model.where(page) >= 0);
            case 4 -> DUE.is(at + ": hand()", pool.hand(), model.hand);
            case 5 -> DUE.is(at + ": pinned()", pool.pinned(), model.pinned());
            case 6 -> DUE.is(at + ": diskReads()", pool.diskReads(), model.reads);
            default -> DUE.is(at + ": diskWrites()", pool.diskWrites(), model.writes);
        }
    }

    private static void sameState(String at, FramePool pool, Model model) {
        for (int f = 0; f < model.frames.size(); f++) {
            for (int what = 0; what < 4; what++) {
                DUE.is(at + ": told(" + f + ", " + what + ")", pool.told(f, what), model.told(f, what));
            }
            DUE.is(at + ": readWord(" + f + ", 0)", pool.readWord(f, 0), model.readWord(f, 0));
        }
        for (int page = 0; page < model.pages; page++) {
            DUE.is(at + ": resident(" + page + ")", pool.resident(page), model.where(page) >= 0);
            for (int off = 0; off < model.words; off++) {
                DUE.is(at + ": diskWord(" + page + ", " + off + ")",
                    pool.diskWord(page, off), model.diskWord(page, off));
            }
        }
    }
}
