import java.util.ArrayList;
import java.util.HashMap;
import java.util.List;
import java.util.Map;

/**
 * A second telling of the document, to hold FramePool's answers against: it shares no code and no
 * way of holding the state with it. Its sizes must be ones that need no mending.
 */
final class Model {
    private static final class Frame {
        final Integer page;
        int pins = 0;
        boolean dirty = false;
        boolean mark = false;
        final Map<Integer, Integer> words = new HashMap<>();

        Frame(Integer page) {
            this.page = page;
        }
    }

    final int pages;
    final int words;
    final List<Frame> frames = new ArrayList<>();
    final Map<Integer, Map<Integer, Integer>> disk = new HashMap<>();
    int hand = 0;
    int reads = 0;
    int writes = 0;

    Model(int frames, int pages, int words) {
        this.pages = pages;
        this.words = words;
        for (int f = 0; f < frames; f++) {
            this.frames.add(null);
        }
    }

    void init() {
        frames.replaceAll(frame -> null);
        disk.clear();
        hand = 0;
        reads = 0;
        writes = 0;
    }

    Map<Integer, Integer> onDisk(int page) {
        return disk.computeIfAbsent(page, none -> new HashMap<>());
    }

    int where(int page) {
        for (int f = 0; f < frames.size(); f++) {
            if (frames.get(f) != null && frames.get(f).page == page) {
                return f;
            }
        }
        return -1;
    }

    boolean held(int f) {
        return f >= 0 && f < frames.size() && frames.get(f) != null && frames.get(f).pins > 0;
    }

    boolean bad(int page) {
        return page < 0 || page >= pages;
    }

    void write(Frame frame) {
        disk.put(frame.page, new HashMap<>(frame.words));
        frame.dirty = false;
        writes++;
    }

    int find() {
        if (pinned() == frames.size()) {
            return -1;
        }
        while (true) {
            int f = hand;
            hand = (hand + 1) % frames.size();
            Frame frame = frames.get(f);
            if (frame == null) {
                return f;
            }
            if (frame.pins > 0) {
                continue;
            }
            if (frame.mark) {
                frame.mark = false;
                continue;
            }
            if (frame.dirty) {
                write(frame);
            }
            frames.set(f, null);
            return f;
        }
    }

    int fetch(int page) {
        if (bad(page)) {
            return -2;
        }
        int f = where(page);
        if (f < 0) {
            f = find();
            if (f < 0) {
                return -1;
            }
            Frame read = new Frame(page);
            read.words.putAll(onDisk(page));
            frames.set(f, read);
            reads++;
        }
        frames.get(f).pins++;
        frames.get(f).mark = true;
        return f;
    }

    int unpin(int f) {
        return held(f) ? --frames.get(f).pins : -3;
    }

    int readWord(int f, int off) {
        return held(f) ? frames.get(f).words.getOrDefault(off, 0) : 0;
    }

    int writeWord(int f, int off, int w) {
        if (!held(f)) {
            return -3;
        }
        if (off < 0 || off >= words) {
            return -4;
        }
        frames.get(f).words.put(off, w);
        frames.get(f).dirty = true;
        return 0;
    }

    int flush(int page) {
        int f = where(page);
        if (f < 0 || !frames.get(f).dirty) {
            return 0;
        }
        write(frames.get(f));
        return 1;
    }

    int flushAll() {
        int before = writes;
        for (int page = 0; page < pages; page++) {
            flush(page);
        }
        return writes - before;
    }

    boolean drop(int page) {
        int f = where(page);
        if (f < 0 || frames.get(f).pins > 0) {
            return false;
        }
        frames.set(f, null);
        return true;
    }

    int copy(int page, int from) {
        if (bad(page) || bad(from)) {
            return -2;
        }
        if (!held(where(page))) {
            return -3;
        }
        int source = where(from);
        Map<Integer, Integer> got =
            new HashMap<>(source < 0 ? onDisk(from) : frames.get(source).words);
        Frame frame = frames.get(where(page));
        frame.words.clear();
        frame.words.putAll(got);
        frame.dirty = true;
        return 0;
    }

    int diskWord(int page, int off) {
        return bad(page) ? 0 : onDisk(page).getOrDefault(off, 0);
    }

    int told(int f, int what) {
        if (f < 0 || f >= frames.size() || what < 0 || what > 3) {
            return -5;
        }
        Frame frame = frames.get(f);
        if (frame == null) {
            return what == 0 ? -1 : 0;
        }
        int[] all = {frame.page, frame.pins, frame.dirty ? 1 : 0, frame.mark ? 1 : 0};
        return all[what];
    }

    int pinned() {
        int count = 0;
        for (int f = 0; f < frames.size(); f++) {
            count += held(f) ? 1 : 0;
        }
        return count;
    }

    int mostPins() {
        int most = 0;
        for (int f = 0; f < frames.size(); f++) {
            most = Math.max(most, told(f, 1));
        }
        return most;
    }

    /** All that later answers hang on, but for the two counts, which only grow. */
    String state() {
        StringBuilder text = new StringBuilder();
        for (int f = 0; f < frames.size(); f++) {
            for (int what = 0; what < 4; what++) {
                text.append(told(f, what)).append(' ');
            }
            for (int off = 0; off < words && frames.get(f) != null; off++) {
                text.append(frames.get(f).words.getOrDefault(off, 0)).append(' ');
            }
        }
        for (int page = 0; page < pages; page++) {
            for (int off = 0; off < words; off++) {
                text.append(diskWord(page, off)).append(' ');
            }
        }
        return text.append(hand).toString();
    }
}
