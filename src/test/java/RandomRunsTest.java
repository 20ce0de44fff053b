import java.util.Random;

/** Random runs of calls, each answer and the whole visible state held against the Model. */
public final class RandomRunsTest {
    private static final int RUNS = 1500;
    private static final int CALLS = 512;

    private final Check check = new Check();
    private final Random random;
    private final String run;
    private final DrumLayers real;
    private final Model model;
    private int busy;

    private RandomRunsTest(int seed) {
        random = new Random(seed);
        run = "run " + seed;
        int frames = random.nextInt(12) + 2;
        int pages = random.nextInt(8);
        int quantum = random.nextInt(11);
        real = new DrumLayers(frames, pages, quantum);
        model = new Model(frames, pages, quantum);
    }

    private void typeLine(String text) {
        for (char c : (text + "\n").toCharArray()) {
            check.due(run + " type", real.type(c), model.type(c));
        }
    }

    private int pick(int... some) {
        return some[random.nextInt(some.length)];
    }

    private int instruction(int words) {
        int near = random.nextInt(Math.max(1, words));
        switch (random.nextInt(12)) {
            case 0: return 256 * 16 + random.nextInt(3);
            case 1: return 256 * 17 + random.nextInt(3);
            case 2: return 256 * 14;
            case 3: return 256 * 13;
            case 4: return 256 * pick(7, 8, 9) + near;
            case 5: return 256 * 18 + random.nextInt(256);
            case 6: return 256 * pick(1, 2, 2, 3, 4, 5, 6) + near;
            case 7: return 256 * pick(10, 11, 12, 2, 2) + near;
            case 8: return random.nextInt(6) == 0 ? 256 * 15 : 256 * 14;
            case 9: return 256 * 2 + near;
            case 10: return random.nextInt(8) == 0 ? random.nextInt() : 256 * random.nextInt(21) + near;
            default: return 256 * pick(19, 18, 16) + random.nextInt(3);
        }
    }

    private void submit() {
        int segments = random.nextInt(8) + 1;
        int program = random.nextInt(16 * segments + 1);
        int cards = random.nextInt(20);
        int claims = random.nextInt(4) == 0 ? random.nextInt(32) : 3 + 4 * (1 + random.nextInt(3));
        int start = random.nextInt(3) == 0 ? 0 : 4;
        int[] opening = {256 * 16, 256 * 16 + 1, 256 * 16 + 2, 256 * 13};
        for (int i = 0; i < program + cards; i += 4) {
            int[] w = new int[4];
            for (int j = 0; j < 4; j++) {
                w[j] = i + j < start ? opening[i + j] : instruction(16 * segments);
            }
            check.due(run + " feed", real.feed(w[0], w[1], w[2], w[3]), model.feed(w[0], w[1], w[2], w[3]));
        }
        if (random.nextInt(10) == 0) {
            program = random.nextInt(150) - 5;
            cards = random.nextInt(60) - 5;
        }
        if (random.nextInt(10) == 0) {
            segments = random.nextInt(12) - 1;
        }
        int limit = random.nextInt(20) == 0 ? pick(0, 1, 5000, 5001) : 1 + random.nextInt(300);
        int got = real.submit(program, cards, segments, limit, claims);
        check.due(run + " submit", got, model.submit(program, cards, segments, limit, claims));
        if (got != DrumLayers.NONE && random.nextInt(4) != 0) {
            typeLine("A" + got);
        }
    }

    private void say() {
        switch (random.nextInt(9)) {
            case 0: typeLine("A" + random.nextInt(7)); break;
            case 1: typeLine("C" + random.nextInt(7)); break;
            case 2: typeLine("R" + random.nextInt(6) + " -" + random.nextInt(2000)); break;
            case 3: typeLine("R" + random.nextInt(6) + "  1"); break;
            case 4: typeLine("R" + random.nextInt(6) + " 1234567890"); break;
            case 5:
                int b = random.nextInt(140) - 5;
                check.due(run + " type " + b, real.type(b), model.type(b));
                break;
            default: typeLine("R" + random.nextInt(6) + " " + random.nextInt(2000)); break;
        }
    }

    private void oneCall() {
        int what = random.nextInt(busy);
        if (what == 0) {
            submit();
        } else if (what == 1) {
            say();
        } else if (what == 2) {
            int n = pick(0, 1, 2, 3, 50, 200, 201, -1);
            check.due(run + " tick", real.tick(n), model.tick(n));
        } else if (what == 3) {
            int device = random.nextInt(5) - 1;
            check.due(run + " done", real.done(device), model.done(device));
        } else if (what % 2 == 0) {
            int n = 1 + random.nextInt(6);
            check.due(run + " tick", real.tick(n), model.tick(n));
        } else {
            int device = random.nextInt(3);
            check.due(run + " done", real.done(device), model.done(device));
        }
    }

    private void compareState() {
        for (int k = -1; k <= 10; k++) {
            for (int what = -1; what <= 2; what++) {
                check.due(run + " process(" + k + ", " + what + ")", real.process(k, what), model.process(k, what));
            }
        }
        for (int k = -1; k <= 6; k++) {
            for (int what = -1; what <= 13; what++) {
                check.due(run + " job(" + k + ", " + what + ")", real.job(k, what), model.job(k, what));
            }
            for (int i = -1; i <= model.job(k, 10); i++) {
                check.due(run + " paper(" + k + ", " + i + ")", real.paper(k, i), model.paper(k, i));
            }
            for (int i = -1; i <= 128; i++) {
                check.due(run + " word(" + k + ", " + i + ")", real.word(k, i), model.word(k, i));
            }
        }
        for (int f = -1; f <= 12; f++) {
            for (int what = -1; what <= 5; what++) {
                check.due(run + " frame(" + f + ", " + what + ")", real.frame(f, what), model.frame(f, what));
            }
        }
        for (int what = -1; what <= 11; what++) {
            check.due(run + " about(" + what + ")", real.about(what), model.about(what));
        }
    }

    private void play(int[] seen) {
        busy = 8 + random.nextInt(40);
        for (int call = 0; call < CALLS && check.clean(); call++) {
            oneCall();
            compareState();
        }
        for (int i = -1; i <= 601; i++) {
            check.due(run + " octet(" + i + ")", real.octet(i), model.octet(i));
        }
        for (int i = 0; i + 3 < model.said.length(); i++) {
            if (model.said.charAt(i + 1) == '=') {
                seen[model.said.charAt(i + 2) - '0']++;
            }
        }
        seen[0] += model.brought;
        for (Model.Deck deck : model.decks) {
            seen[6] += deck == null ? 0 : deck.paper.size();
            seen[7] += deck == null ? 0 : deck.cardsRead;
        }
    }

    public static void main(String[] args) {
        int[] seen = new int[8];
        for (int seed = 1; seed <= RUNS; seed++) {
            RandomRunsTest one = new RandomRunsTest(seed);
            one.play(seen);
            if (!one.check.clean()) {
                one.check.finish();
            }
        }
        System.out.println(RUNS + " runs as due; segments brought, outcomes 1 to 5, lines, cards: "
                + java.util.Arrays.toString(seen));
        Check enough = new Check();
        for (int i = 0; i < seen.length; i++) {
            enough.due("the runs come to " + i, seen[i] > 100, true);
        }
        enough.finish();
    }
}
