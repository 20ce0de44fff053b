import java.util.ArrayList;
import java.util.List;

/**
 * A DrumLayers that is never used for more calls than the document promises something for: when
 * they are up, a new object is told all that may have changed the old one, and answers in its stead.
 */
final class Machine {
    private static final int MOST_CALLS = 512;
    private static final int FEED = 0;
    private static final int SUBMIT = 1;
    private static final int TICK = 2;
    private static final int DONE = 3;
    private static final int TYPE = 4;

    private final int frames;
    private final int pages;
    private final int quantum;
    private final List<int[]> changes = new ArrayList<>();
    private DrumLayers x;
    private int calls;

    Machine(int frames, int pages, int quantum) {
        this.frames = frames;
        this.pages = pages;
        this.quantum = quantum;
        x = new DrumLayers(frames, pages, quantum);
    }

    /** How many changes more it can be told. */
    int changesLeft() {
        // One call is left for a question.
        return MOST_CALLS - 1 - changes.size();
    }

    int feed(int a, int b, int c, int d) {
        return change(FEED, a, b, c, d);
    }

    int submit(int program, int cards, int segments, int limit, int claims) {
        return change(SUBMIT, program, cards, segments, limit, claims);
    }

    int tick(int n) {
        return change(TICK, n);
    }

    boolean done(int device) {
        return change(DONE, device) == 1;
    }

    boolean type(int b) {
        return change(TYPE, b) == 1;
    }

    int process(int k, int what) {
        return fresh().process(k, what);
    }

    int job(int k, int what) {
        return fresh().job(k, what);
    }

    int paper(int k, int i) {
        return fresh().paper(k, i);
    }

    int word(int k, int address) {
        return fresh().word(k, address);
    }

    int frame(int f, int what) {
        return fresh().frame(f, what);
    }

    int about(int what) {
        return fresh().about(what);
    }

    int octet(int i) {
        return fresh().octet(i);
    }

    private int change(int... call) {
        if (changesLeft() <= 0) {
            throw new IllegalStateException("a test goes beyond the calls that the document promises");
        }
        DrumLayers told = fresh();
        changes.add(call);
        return tell(told, call);
    }

    private DrumLayers fresh() {
        if (calls >= MOST_CALLS) {
            x = new DrumLayers(frames, pages, quantum);
            for (int[] call : changes) {
                tell(x, call);
            }
            calls = changes.size();
        }
        calls++;
        return x;
    }

    private static int tell(DrumLayers x, int[] call) {
        switch (call[0]) {
            case FEED: return x.feed(call[1], call[2], call[3], call[4]);
            case SUBMIT: return x.submit(call[1], call[2], call[3], call[4], call[5]);
            case TICK: return x.tick(call[1]);
            case DONE: return x.done(call[1]) ? 1 : 0;
            default: return x.type(call[1]) ? 1 : 0;
        }
    }
}
