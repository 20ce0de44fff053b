/** The boundary cases of PART 6: an ending with lines and without, and the console's first 600 bytes. */
public final class EdgesOfPart6Test {
    private static final Check CHECK = new Check();
    private static final int PRINT = Rig.op(Rig.PRINT);

    /** A job that prints so many lines and then does this word; told to cancel when it asks. */
    private static Rig printing(int lines, int limit, int word) {
        Rig rig = new Rig(4, 1, 9);
        int[] program = new int[lines + 3];
        java.util.Arrays.fill(program, PRINT);
        program[0] = Rig.op(Rig.GET, 1);
        program[1] = Rig.op(Rig.GET, 2);
        program[lines + 2] = word;
        rig.load(1, limit, 6, program);
        rig.line("A0");
        rig.settle();
        if (rig.x.process(0, 1) == 5) {
            rig.line("C0");
            rig.settle();
        }
        return rig;
    }

    /** "while its lines are not empty it waits. Then, in one step: .." */
    private static void endingWithLines(int outcome, int lines) {
        int[] words = {0, Rig.END, Rig.op(Rig.SET, 1), Rig.op(Rig.GET, 2), -1, Rig.op(Rig.ASK)};
        int limit = outcome == 2 ? lines + 2 : 50;
        Rig rig = printing(lines, limit, words[outcome]);
        String what = "outcome " + outcome + " with " + lines + " lines";
        String before = outcome == 5 ? "0?/" : "";
        for (int left = lines; left > 0; left--) {
            CHECK.due(what + ", it waits", rig.x.process(0, 1) + " " + rig.x.job(0, 0) + rig.x.job(0, 1), "4 20");
            CHECK.due(what + ", left", rig.x.job(0, 11), left);
            CHECK.due(what + ", it holds", rig.held(0) + ", " + rig.free(), "0 1 1, 1 0 0");
            CHECK.due(what + ", its frame", rig.x.frame(0, 0), 0);
            CHECK.due(what + ", said", rig.said(), before);
            rig.x.tick(10);
            CHECK.due(what + ", it waits on", rig.x.process(0, 1) + " " + rig.x.job(0, 11), "4 " + left);
            rig.x.done(2);
            rig.x.tick(1);
            CHECK.due(what + ", woken when they are empty", rig.x.process(0, 0), left == 1 ? 0 : -1);
            rig.x.tick(1);
        }
        CHECK.due(what + ", over", rig.x.job(0, 0) + " " + rig.x.job(0, 1) + " " + rig.moved(0),
                "3 " + outcome + " 0 " + lines + " 0 " + (outcome == 5 ? 1 : 0));
        CHECK.due(what + ", said then", rig.said(), before + "0=" + outcome + "/");
        CHECK.due(what + ", all is free", rig.free() + " " + rig.frame(0) + " " + rig.x.about(8), "1 1 1 free 0");
        CHECK.due(what + ", gone", rig.row() + " " + rig.waits(), " 0000007777");
    }

    private static void endings() {
        for (int outcome = 1; outcome <= 5; outcome++) {
            for (int lines = 0; lines <= 4; lines++) {
                endingWithLines(outcome, lines);
            }
        }
    }

    /** Without lines the ending is one step, and it is the one behind that in which it began. */
    private static void endingWithoutLines() {
        Rig rig = new Rig(4, 1, 9);
        rig.load(2, 50, 0, Rig.ints(Rig.op(Rig.STORE, 16), Rig.END));
        rig.line("A0");
        rig.x.tick(3);
        rig.x.done(0);
        rig.x.tick(3);
        rig.x.done(0);
        rig.x.tick(3);
        CHECK.due("it begins to end", rig.registers(0) + " " + rig.row() + " " + rig.frames(2),
                "2 0 2 2 0 0 0 0.0@9 0.1c@8");
        CHECK.due("nothing is said", rig.x.about(7), 0);
        rig.x.tick(1);
        CHECK.due("over", rig.registers(0) + " " + rig.row() + " " + rig.frames(2), "3 1 2 2 0 0  free free");
        CHECK.due("said", rig.said(), "0=1/");
        CHECK.due("nothing is written of it", rig.x.about(1), 0);
    }

    /** "the console says "k=o", 10 (o the outcome)", for each k and each o. */
    private static void whatIsSaid() {
        int[] words = {0, Rig.END, Rig.op(Rig.JUMP, 0), Rig.op(Rig.GET, 0), -1, Rig.op(Rig.ASK)};
        for (int outcome = 1; outcome <= 5; outcome++) {
            Rig rig = new Rig(4, 1, 9);
            for (int k = 0; k < 6; k++) {
                rig.load(1, 9, 0, Rig.ints(words[outcome]));
            }
            StringBuilder due = new StringBuilder();
            for (int k = 5; k >= 0; k--) {
                rig.line("A" + k);
                rig.settle();
                if (outcome == 5) {
                    rig.line("C" + k);
                    rig.settle();
                    due.append(k).append("?/");
                }
                due.append(k).append('=').append(outcome).append('/');
                CHECK.due("said", rig.said(), due.toString());
                CHECK.due("outcome", rig.x.job(k, 0) + " " + rig.x.job(k, 1), "3 " + outcome);
            }
        }
    }

    /** "all its frames are FREE": of all others none. */
    private static void onlyItsFrames() {
        Rig rig = new Rig(6, 1, 9);
        for (int k = 0; k < 3; k++) {
            rig.load(2, 50, 0, Rig.ints(Rig.op(Rig.ASK), Rig.op(Rig.LOAD, 16), Rig.op(Rig.ASK)));
            rig.line("A" + k);
            rig.settle();
        }
        for (int k = 0; k < 3; k++) {
            rig.line("R" + k + " 1");
            rig.settle();
        }
        CHECK.due("six frames", rig.frames(6).replaceAll("@\\d+", ""), "0.0 1.0 2.0 0.1 1.1 2.1");
        rig.line("C1");
        rig.settle();
        CHECK.due("1 is over", rig.frames(6).replaceAll("@\\d+", ""), "0.0 free 2.0 0.1 free 2.1");
    }

    /** "the row of GETS is gone through" when a job ends, with what it held free. */
    private static void theRowIsGoneThrough() {
        Rig rig = new Rig(4, 1, 9);
        rig.load(1, 50, 7, Rig.ints(Rig.op(Rig.GET, 0), Rig.op(Rig.ASK), Rig.END));
        rig.load(1, 50, 7, Rig.ints(Rig.op(Rig.GET, 0), Rig.op(Rig.ASK), Rig.END));
        rig.line("A0");
        rig.settle();
        rig.line("A1");
        rig.settle();
        rig.line("R0 1");
        rig.x.tick(2);
        CHECK.due("0 begins to end", rig.row() + " " + rig.waits(), "0 0600007777");
        rig.x.tick(1);
        CHECK.due("1 has the reader", rig.row() + " " + rig.held(1) + " " + rig.x.job(1, 2), "1 1 0 0 1");
        CHECK.due("0 shows it still", rig.held(0) + " " + rig.x.job(0, 0), "1 0 0 3");
    }

    /** "(The console's sayings: the first 600 bytes are kept.)": a saying may be cut anywhere. */
    private static void sixHundredBytes() {
        // So many wrong lines, "?" and 10 each, then "0?" and 10, then "0=5" and 10.
        String sayings = "0?\n0=5\n";
        for (int lines = 295; lines <= 301; lines++) {
            Rig rig = new Rig(4, 1, 9);
            rig.load(1, 50, 0, Rig.ints(Rig.op(Rig.ASK)));
            rig.wrongLines(lines);
            rig.line("A0");
            rig.settle();
            rig.line("C0");
            rig.settle();
            CHECK.due("all are counted", rig.x.about(7), 2 * lines + 7);
            CHECK.due("over", rig.x.job(0, 1), 5);
            for (int i = 0; i < 7; i++) {
                int at = 2 * lines + i;
                CHECK.due(lines + " lines, octet(" + at + ")", rig.x.octet(at), at < 600 ? sayings.charAt(i) : -1);
            }
            CHECK.due("the first", rig.x.octet(0) + " " + rig.x.octet(1), "63 10");
        }
    }

    public static void main(String[] args) {
        endings();
        endingWithoutLines();
        whatIsSaid();
        onlyItsFrames();
        theRowIsGoneThrough();
        sixHundredBytes();
        CHECK.finish();
    }
}
