import java.util.ArrayDeque;
import java.util.ArrayList;
import java.util.Deque;
import java.util.HashSet;
import java.util.List;
import java.util.Set;

/**
 * Small pools, whole: every state that calls can bring about (with so many pins, and so few words
 * to write), every call in each of them, its answer and all that is told then, held against the
 * Model. A walk ends at the first call that goes wrong, since all behind it would go wrong too.
 */
public final class EveryStateTest {
    private static final Due DUE = new Due("EveryStateTest");

    /** A shortest run of calls that leads to a state. */
    private record Run(Run before, Call last) {
        List<Call> calls() {
            List<Call> calls = new ArrayList<>();
            for (Run run = this; run.last != null; run = run.before) {
                calls.add(0, run.last);
            }
            return calls;
        }
    }

    private final int frames;
    private final int pages;
    private final int words;
    private final int mostPins;
    private final List<Call> changes;
    private final List<Call> asks;
    private final Set<String> seen = new HashSet<>();
    private final Deque<Run> open = new ArrayDeque<>();

    private EveryStateTest(int frames, int pages, int words, int mostPins, int... written) {
        this.frames = frames;
        this.pages = pages;
        this.words = words;
        this.mostPins = mostPins;
        this.changes = Call.changes(frames, pages, words, written);
        this.asks = Call.asks(frames, pages, words);
    }

    public static void main(String[] args) {
        new EveryStateTest(1, 1, 1, 3, 0, 1, -1).walk();
        new EveryStateTest(1, 2, 2, 2, 0, 7).walk();
        new EveryStateTest(2, 1, 1, 2, 0, 7).walk();
        new EveryStateTest(2, 3, 1, 1, 0, 7).walk();
        new EveryStateTest(3, 2, 1, 2, 0, 7).walk();
        new EveryStateTest(3, 4, 1, 1).walk();
        DUE.end();
    }

    private void walk() {
        seen.add(new Model(frames, pages, words).state());
        open.add(new Run(null, null));
        while (!open.isEmpty() && !DUE.anyWrong()) {
            everyCallBehind(open.remove());
        }
        System.out.println(frames + " frames, " + pages + " pages of " + words + ": "
            + seen.size() + " states, " + changes.size() + " calls in each");
    }

    private void everyCallBehind(Run run) {
        List<Call> before = run.calls();
        for (Call call : changes) {
            FramePool pool = new FramePool(frames, pages, words);
            Model model = new Model(frames, pages, words);
            for (Call earlier : before) {
                earlier.onPool().applyAsInt(pool);
                earlier.onModel().applyAsInt(model);
            }
            same(before, call, call, pool, model);
            for (Call ask : asks) {
                same(before, call, ask, pool, model);
            }
            if (DUE.anyWrong()) {
                return;
            }
            if (model.mostPins() <= mostPins && seen.add(model.state())) {
                open.add(new Run(run, call));
            }
        }
    }

    private static void same(List<Call> before, Call call, Call ask, FramePool pool, Model model) {
        DUE.is(() -> text(before) + call.text() + ": " + ask.text(),
            ask.onPool().applyAsInt(pool), ask.onModel().applyAsInt(model));
    }

    private static String text(List<Call> calls) {
        StringBuilder text = new StringBuilder();
        for (Call call : calls) {
            text.append(call.text()).append(", ");
        }
        return text.toString();
    }
}
