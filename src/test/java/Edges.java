import java.util.function.Consumer;

/**
 * The boundary cases of one heading of the document, one by one: each is named by the sentence it
 * holds, makes its own pool, and fails on its own without keeping the others from being looked at.
 */
final class Edges {
    private final String heading;
    private int held = 0;
    private int broken = 0;

    Edges(String heading) {
        this.heading = heading;
    }

    void at(String sentence, Consumer<Due> test) {
        Due due = new Due(heading + " [" + sentence + "]");
        try {
            test.accept(due);
        } catch (RuntimeException thrown) {
            due.fails("threw " + thrown);
        }
        if (due.allAsDue()) {
            held++;
        } else {
            broken++;
            System.out.println("BROKEN: " + heading + " [" + sentence + "]");
        }
    }

    void end() {
        System.out.println(heading + ": " + held + " edges hold, " + broken + " broken");
        if (broken != 0) {
            System.exit(1);
        }
    }
}
