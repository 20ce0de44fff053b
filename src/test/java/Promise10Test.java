/** Promise 10: word. */
public final class Promise10Test {
    private static final Check CHECK = new Check();

    private static void onTheDrum() {
        Rig rig = new Rig(4, 1, 2);
        rig.load(2, 50, 0, Rig.ints(5, -6, 7));
        CHECK.due("word 1", rig.x.word(0, 1), -6);
        CHECK.due("word behind the program", rig.x.word(0, 3), 0);
        int[][] none = {{0, -1}, {0, 32}, {0, 128}, {1, 0}, {5, 1}, {6, 0}, {-1, 0}, {0, Integer.MIN_VALUE},
            {0, Integer.MAX_VALUE}, {Integer.MIN_VALUE, 0}, {Integer.MAX_VALUE, 0}};
        for (int[] pair : none) {
            CHECK.due("word(" + pair[0] + ", " + pair[1] + ")", rig.x.word(pair[0], pair[1]), 0);
        }
    }

    private static void inCoreAndOver() {
        Rig rig = new Rig(4, 1, 9);
        rig.load(2, 50, 0, Rig.ints(Rig.op(Rig.SET, 9), Rig.op(Rig.STORE, 31), Rig.op(Rig.STORE, 0), Rig.op(Rig.ASK)));
        rig.load(2, 50, 0, Rig.ints(1, 2, 3));
        rig.line("A0");
        rig.x.tick(3);
        CHECK.due("while it is read", rig.x.word(0, 0), Rig.op(Rig.SET, 9));
        rig.settle();
        CHECK.due("changed in core", rig.x.word(0, 31), 9);
        CHECK.due("changed in core", rig.x.word(0, 0), 9);
        CHECK.due("as it was", rig.x.word(0, 1), Rig.op(Rig.STORE, 31));
        CHECK.due("the other job's", rig.x.word(1, 0), 1);
        CHECK.due("the other job's", rig.x.word(1, 31), 0);
        rig.line("C0");
        rig.settle();
        CHECK.due("over", rig.x.job(0, 0), 3);
        CHECK.due("of one that is over", rig.x.word(0, 31), 0);
        CHECK.due("of one that is over", rig.x.word(0, 1), 0);
        rig.load(8, 50, 0, new int[128]);
        CHECK.due("of the new one", rig.x.word(0, 0), 0);
        CHECK.due("of the new one", rig.x.word(0, 127), 0);
    }

    /** Eight changed segments through four frames: every word is where the document says. */
    private static void goingRoundTheDrum() {
        Rig rig = new Rig(4, 1, 9);
        int[] program = new int[16];
        for (int i = 0; i < 7; i++) {
            program[2 * i] = Rig.op(Rig.SET, 100 + i);
            program[2 * i + 1] = Rig.op(Rig.STORE, 16 * (i + 1) + i);
        }
        program[14] = Rig.op(Rig.JUMP, 0);
        rig.load(8, 500, 0, program);
        rig.line("A0");
        int[] stored = new int[8];
        for (int i = 0; i < 120; i++) {
            rig.x.tick(1);
            if (i % 3 == 2) {
                rig.x.done(0);
            }
            int steps = rig.x.job(0, 2);
            for (int s = 1; s <= 7; s++) {
                stored[s] = steps >= 2 * s ? 99 + s : 0;
                CHECK.due("word of segment " + s + " in tick " + (i + 1), rig.x.word(0, 17 * s - 1), stored[s]);
            }
        }
        CHECK.due("went round", rig.x.job(0, 2) > 20, true);
        CHECK.due("brought", rig.x.about(9) > 8, true);
    }

    /** The program's own segment is changed, goes to the drum and comes back. */
    private static void theFirstSegmentGoesToo() {
        Rig rig = new Rig(4, 1, 9);
        int[] program = new int[24];
        program[0] = Rig.op(Rig.SET, 50);
        program[1] = Rig.op(Rig.STORE, 5);
        program[2] = Rig.op(Rig.JUMP, 16);
        program[16] = Rig.op(Rig.LOAD, 32);
        program[17] = Rig.op(Rig.LOAD, 48);
        program[18] = Rig.op(Rig.LOAD, 64);
        program[19] = Rig.op(Rig.LOAD, 5);
        program[20] = Rig.END;
        rig.load(5, 50, 0, program);
        rig.line("A0");
        boolean gone = false;
        for (int i = 0; i < 60 && rig.x.job(0, 0) != 3; i++) {
            rig.x.tick(2);
            boolean there = false;
            for (int f = 0; f < 4; f++) {
                there |= rig.x.frame(f, 0) == 0 && rig.x.frame(f, 1) == 0;
            }
            gone |= rig.x.job(0, 2) > 3 && !there;
            if (rig.x.job(0, 0) == 2 && rig.x.job(0, 2) >= 2) {
                CHECK.due("the stored word", rig.x.word(0, 5), 50);
            }
            rig.x.done(0);
        }
        CHECK.due("segment 0 went", gone, true);
        CHECK.due("over", rig.x.job(0, 1) + " " + rig.x.job(0, 4), "1 50");
    }

    public static void main(String[] args) {
        onTheDrum();
        inCoreAndOver();
        goingRoundTheDrum();
        theFirstSegmentGoesToo();
        CHECK.finish();
    }
}
