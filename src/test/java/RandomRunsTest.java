import java.util.Arrays;
import java.util.Random;

/** Random runs of calls, each answer and what can be seen behind it held against the Model. */
public final class RandomRunsTest {
    private static final int RUNS = 6000;
    // What the dearest of the calls below, a submit with its feeds and its line, may tell the machine.
    private static final int CHANGES_A_CALL = 60;

    // What is counted, so that the runs can't miss the rarer paths without being noticed.
    private static final int WAITS = 0;
    private static final int OUTCOMES = 7;
    private static final int BROUGHT = 13;
    private static final int PAPER = 14;
    private static final int CARDS = 15;
    private static final int WRITTEN = 16;
    private static final int NOT_WRITTEN = 17;
    private static final int NOT_WRITTEN_OVER_NEW = 18;
    private static final int KINDS = 19;

    private final Check check = new Check();
    private final Random random;
    private final String run;
    private final Machine real;
    private final Model model;
    private final int[] seen;
    private int busy;
    private int longTicks;
    private int drumIsSlow;

    private RandomRunsTest(int seed, int[] seen) {
        this.seen = seen;
        random = new Random(seed);
        run = "run " + seed;
        int frames = random.nextBoolean() ? 4 : random.nextInt(12) + 2;
        int pages = random.nextInt(8);
        int quantum = random.nextInt(11);
        real = new Machine(frames, pages, quantum);
        model = new Model(frames, pages, quantum);
    }

    private void typeLine(String text) {
        for (char c : (text + "\n").toCharArray()) {
            check.due(run + " type", real.type(c), model.type(c));
        }
    }

    private int pick(int... some) {
        return some[random.nextInt(some.length)];
    }

    /** Anything, so that most of it ends in a trap soon. */
    private int wildWord(int words) {
        int near = random.nextInt(words + 1);
        switch (random.nextInt(8)) {
            case 0: return 256 * pick(16, 17) + random.nextInt(4);
            case 1: return 256 * pick(13, 14, 15, 19);
            case 2: return 256 * pick(7, 8, 9) + near;
            case 3: return 256 * 18 + random.nextInt(256);
            case 4: return random.nextInt(8) == 0 ? random.nextInt() : 256 * random.nextInt(21) + near;
            default: return 256 * pick(1, 2, 2, 3, 4, 5, 6, 10, 11, 12) + near;
        }
    }

    /** What a job that holds all it claims can do for long. */
    private int tameWord(int from, int words, boolean reads, boolean prints) {
        int data = from + random.nextInt(words - from);
        switch (random.nextInt(20)) {
            case 0: case 1: return reads ? 256 * 13 : 256 * 19;
            case 2: case 3: case 4: case 5: return prints ? 256 * 14 : 256 * 18 + data;
            case 6: return random.nextInt(4) == 0 ? 256 * 15 : 256 * 19;
            case 7: return 256 * 18 + random.nextInt(256);
            case 8: case 9: case 10: case 11: return 256 * 2 + data;
            case 12: return 256 * pick(8, 9) + random.nextInt(from);
            case 13: return 256 * 10 + data;
            case 14: return random.nextInt(3) == 0 ? 256 * pick(11, 12) + data : 256 + data;
            case 15: return prints && random.nextInt(4) == 0 ? 256 * 17 + pick(1, 2) : 256 * 3 + data;
            default: return 256 * pick(1, 3, 4, 5) + data;
        }
    }

    private int[] program(int program, int words, int claims) {
        int[] all = new int[program];
        for (int i = 0; i < program; i++) {
            all[i] = wildWord(words);
        }
        if (program < 15 || program == words || random.nextInt(4) == 0) {
            return all;
        }
        int n = 0;
        for (int r : random.nextBoolean() ? new int[] {0, 1, 2} : new int[] {2, 1, 0}) {
            int count = r == 2 ? claims / 4 : claims >> r & 1;
            for (int i = 0; i < count; i++) {
                all[n++] = 256 * 16 + r;
                if (random.nextInt(3) == 0) {
                    all[n++] = 256 + program + random.nextInt(words - program);
                }
            }
            n = Math.min(n, program - 4);
        }
        for (; n < program - 1; n++) {
            all[n] = tameWord(program, words, claims % 2 == 1, (claims & 2) != 0 && claims >= 4);
        }
        all[n] = random.nextInt(3) == 0 ? 0 : 256 * 7 + random.nextInt(program);
        return all;
    }

    private void submit() {
        int segments = random.nextInt(8) + 1;
        int program = random.nextInt(random.nextBoolean() ? Math.min(40, 16 * segments) : 16 * segments + 1);
        int cards = random.nextInt(20);
        int claims = random.nextInt(4) == 0 ? random.nextInt(32) : 3 + 4 * random.nextInt(model.pages + 1);
        int[] words = Arrays.copyOf(program(program, 16 * segments, claims), program + cards + 4);
        for (int i = program; i < program + cards; i++) {
            words[i] = random.nextInt(2000) - 1000;
        }
        for (int i = 0; i < program + cards; i += 4) {
            check.due(run + " feed", real.feed(words[i], words[i + 1], words[i + 2], words[i + 3]),
                    model.feed(words[i], words[i + 1], words[i + 2], words[i + 3]));
        }
        if (random.nextInt(10) == 0) {
            program = random.nextInt(150) - 5;
            cards = random.nextInt(60) - 5;
        }
        if (random.nextInt(10) == 0) {
            segments = random.nextInt(12) - 1;
        }
        int limit = random.nextInt(20) == 0 ? pick(0, 1, 5000, 5001) : 1 + random.nextInt(300);
        int got = real.submit(program, cards, segments, limit, claims);
        check.due(run + " submit", got, model.submit(program, cards, segments, limit, claims));
        if (got != DrumLayers.NONE && random.nextInt(4) != 0) {
            typeLine("A" + got);
        }
    }

    private int whoWaitsForReply() {
        for (int k = 0; k < 6; k++) {
            if (model.process(k, 1) == 5) {
                return k;
            }
        }
        return random.nextInt(6);
    }

    private void say() {
        switch (random.nextInt(9)) {
            case 0: typeLine("A" + random.nextInt(7)); break;
            case 1: typeLine("C" + random.nextInt(7)); break;
            case 2: typeLine("R" + random.nextInt(6) + " -" + random.nextInt(2000)); break;
            case 3: typeLine("R" + random.nextInt(6) + "  1"); break;
            case 4: typeLine("R" + random.nextInt(6) + " 1234567890"); break;
            case 5:
                int b = random.nextInt(140) - 5;
                check.due(run + " type " + b, real.type(b), model.type(b));
                break;
            default: typeLine("R" + whoWaitsForReply() + " " + random.nextInt(2000)); break;
        }
    }

    private void done(int device) {
        if (device == 0 && model.drum.equals("writing")) {
            seen[WRITTEN]++;
            seen[NOT_WRITTEN] += model.oldDeck.state.equals("over") ? 1 : 0;
            seen[NOT_WRITTEN_OVER_NEW] += model.decks[model.oldDeck.number] != model.oldDeck ? 1 : 0;
        }
        check.due(run + " done", real.done(device), model.done(device));
    }

    private void tick(int n) {
        check.due(run + " tick", real.tick(n), model.tick(n));
    }

    private void oneCall() {
        int what = random.nextInt(busy);
        if (what <= 1) {
            submit();
        } else if (what <= 3) {
            say();
        } else if (what == 4) {
            tick(pick(0, 1, 2, 3, 50, 200, 201, -1));
        } else if (what == 5) {
            done(random.nextInt(5) - 1);
        } else if (what % 2 == 0) {
            tick(1 + random.nextInt(longTicks));
        } else {
            boolean drumFirst = !model.drum.equals("nothing") && random.nextInt(drumIsSlow) == 0;
            done(drumFirst ? 0 : model.readerWorks ? 1 : 2);
        }
    }

    private void compareProcess(int k) {
        for (int what = -1; what <= 2; what++) {
            check.due(run + " process(" + k + ", " + what + ")", real.process(k, what), model.process(k, what));
        }
    }

    private void compareJob(int k) {
        for (int what = -1; what <= 13; what++) {
            check.due(run + " job(" + k + ", " + what + ")", real.job(k, what), model.job(k, what));
        }
    }

    private void comparePaper(int k) {
        for (int i = -1; i <= model.job(k, 10); i++) {
            check.due(run + " paper(" + k + ", " + i + ")", real.paper(k, i), model.paper(k, i));
        }
    }

    private void compareWords(int k) {
        for (int i = -1; i <= 128; i++) {
            check.due(run + " word(" + k + ", " + i + ")", real.word(k, i), model.word(k, i));
        }
    }

    private void compareFrame(int f) {
        for (int what = -1; what <= 5; what++) {
            check.due(run + " frame(" + f + ", " + what + ")", real.frame(f, what), model.frame(f, what));
        }
    }

    private void compareAbout() {
        for (int what = -1; what <= 11; what++) {
            check.due(run + " about(" + what + ")", real.about(what), model.about(what));
        }
    }

    /** A look at some of it behind each call, as each new object must be told all from its beginning. */
    private void compareSome() {
        for (int k = 0; k < 6; k++) {
            seen[WAITS + model.process(k, 1)]++;
        }
        for (int k = 0; k < 10; k++) {
            check.due(run + " process(" + k + ", 0)", real.process(k, 0), model.process(k, 0));
        }
        compareProcess(random.nextInt(12) - 1);
        compareJob(random.nextInt(8) - 1);
        compareFrame(random.nextInt(14) - 1);
        compareAbout();
    }

    private void compareAll() {
        for (int k = -1; k <= 10; k++) {
            compareProcess(k);
        }
        for (int k = -1; k <= 6; k++) {
            compareJob(k);
            comparePaper(k);
            compareWords(k);
        }
        for (int f = -1; f <= 12; f++) {
            compareFrame(f);
        }
        compareAbout();
    }

    private void play() {
        busy = 10 + random.nextInt(60);
        longTicks = 1 + random.nextInt(20);
        drumIsSlow = pick(1, 1, 2, 6);
        while (real.changesLeft() > CHANGES_A_CALL && check.clean()) {
            oneCall();
            compareSome();
            if (random.nextInt(30) == 0) {
                compareAll();
            }
        }
        compareAll();
        for (int i = -1; i <= 601; i++) {
            check.due(run + " octet(" + i + ")", real.octet(i), model.octet(i));
        }
        for (int i = 0; i + 3 < model.said.length(); i++) {
            if (model.said.charAt(i + 1) == '=') {
                seen[OUTCOMES + model.said.charAt(i + 2) - '0']++;
            }
        }
        seen[BROUGHT] += model.brought;
        for (Model.Deck deck : model.decks) {
            seen[PAPER] += deck == null ? 0 : deck.paper.size();
            seen[CARDS] += deck == null ? 0 : deck.cardsRead;
        }
    }

    public static void main(String[] args) {
        int[] seen = new int[KINDS];
        for (int seed = 1; seed <= RUNS; seed++) {
            RandomRunsTest one = new RandomRunsTest(seed, seen);
            one.play();
            if (!one.check.clean()) {
                one.check.finish();
            }
        }
        System.out.println(RUNS + " runs as due; they came to " + Arrays.toString(seen));
        Check enough = new Check();
        for (int i = 0; i < KINDS; i++) {
            enough.due("that the runs come to " + i, seen[i] > 5 || i == OUTCOMES, true);
        }
        enough.finish();
    }
}
