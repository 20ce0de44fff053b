/** Promise 11: frame, and the choice of frames in PART 3. */
public final class Promise11Test {
    private static final Check CHECK = new Check();

    private static void wrongOnes() {
        Rig rig = new Rig(4, 1, 9);
        rig.load(1, 50, 0, Rig.ints(Rig.op(Rig.ASK)));
        rig.line("A0");
        rig.x.tick(3);
        rig.x.done(0);
        rig.x.tick(2);
        CHECK.due("frame 0", rig.frame(0), "0.0p@5");
        int[][] wrong = {{0, -1}, {0, 5}, {-1, 0}, {4, 0}, {4, 1}, {12, 0}, {0, Integer.MIN_VALUE},
            {0, Integer.MAX_VALUE}, {Integer.MIN_VALUE, 0}, {Integer.MAX_VALUE, 4}, {1, 5}, {1, -1}};
        for (int[] pair : wrong) {
            CHECK.due("frame(" + pair[0] + ", " + pair[1] + ")", rig.x.frame(pair[0], pair[1]), -1);
        }
    }

    private static void fromFreeToFree() {
        Rig rig = new Rig(4, 1, 9);
        rig.load(2, 50, 0, Rig.ints(Rig.op(Rig.SET, 1), Rig.op(Rig.STORE, 20), Rig.op(Rig.LOAD, 20), Rig.END));
        rig.line("A0");
        rig.x.tick(2);
        CHECK.due("wanted", rig.frames(4), "free free free free");
        rig.x.tick(1);
        CHECK.due("read", rig.frames(4), "busy free free free");
        rig.x.tick(4);
        rig.x.done(0);
        CHECK.due("done", rig.frames(4), "busy free free free");
        rig.x.tick(1);
        CHECK.due("came in tick 8", rig.frames(4), "0.0p@8 free free free");
        rig.x.tick(1);
        CHECK.due("no more pinned", rig.frames(4), "0.0@9 free free free");
        rig.x.tick(1);
        CHECK.due("a step that wants a segment uses none", rig.frames(4), "0.0@9 free free free");
        rig.x.tick(1);
        CHECK.due("read", rig.frames(4), "0.0@9 busy free free");
        rig.x.done(0);
        rig.x.tick(1);
        CHECK.due("came in tick 12", rig.frames(4), "0.0@9 0.1p@12 free free");
        rig.x.tick(1);
        CHECK.due("stored", rig.frames(4), "0.0@13 0.1c@13 free free");
        rig.x.tick(1);
        CHECK.due("loaded", rig.frames(4), "0.0@14 0.1c@14 free free");
        rig.x.tick(1);
        CHECK.due("end", rig.frames(4), "0.0@15 0.1c@14 free free");
        rig.x.tick(1);
        CHECK.due("over", rig.frames(4), "free free free free");
    }

    /** The last word of segment 0 uses two frames in one tick: of alike ones the lowest goes. */
    private static void ofAlikeOnesTheLowest() {
        Rig rig = new Rig(4, 1, 9);
        int[] program = new int[20];
        program[0] = Rig.op(Rig.JUMP, 15);
        program[15] = Rig.op(Rig.LOAD, 32);
        program[16] = Rig.op(Rig.LOAD, 48);
        program[17] = Rig.op(Rig.LOAD, 64);
        program[18] = Rig.op(Rig.LOAD, 80);
        program[19] = Rig.op(Rig.ASK);
        rig.load(6, 50, 0, program);
        rig.line("A0");
        rig.x.tick(3);
        for (int i = 0; i < 3; i++) {
            rig.x.done(0);
            rig.x.tick(i < 2 ? 4 : 3);
        }
        CHECK.due("three segments", rig.frames(4), "0.0@9 0.2@9 0.1p@12 busy");
        rig.x.done(0);
        rig.x.tick(4);
        CHECK.due("the lowest of alike ones", rig.frames(4), "busy 0.2@9 0.1@16 0.3@16");
        rig.x.done(0);
        rig.x.tick(4);
        CHECK.due("then the one used least lately", rig.frames(4), "0.4@20 busy 0.1@20 0.3@16");
        CHECK.due("nothing was changed", rig.x.about(1), 2);
    }

    /** A job that waits for a reply with its segment PINNED keeps it, though it is used least lately. */
    private static void pinnedOnesStay() {
        Rig rig = new Rig(4, 1, 9);
        rig.load(1, 50, 0, Rig.ints(Rig.op(Rig.ASK), Rig.op(Rig.ASK)));
        int[] program = new int[9];
        for (int i = 1; i < 8; i++) {
            program[i - 1] = Rig.op(Rig.LOAD, 16 * i);
        }
        program[7] = Rig.op(Rig.ASK);
        rig.load(8, 50, 0, program);
        rig.line("A0");
        rig.x.tick(3);
        rig.x.done(0);
        rig.x.tick(2);
        CHECK.due("pinned", rig.frame(0), "0.0p@5");
        rig.line("A1");
        rig.settle();
        CHECK.due("job 1 went through all its segments", rig.x.process(1, 1), 5);
        CHECK.due("still there", rig.frame(0), "0.0p@5");
        CHECK.due("brought", rig.x.about(9), 9);
        rig.line("R0 4");
        int tick = rig.x.tick(1);
        CHECK.due("the reply is no step of its job", rig.frame(0), "0.0@5");
        rig.x.tick(1);
        CHECK.due("the next step uses it", rig.frame(0), "0.0@" + (tick + 1));
    }

    /** Steps that end in a TRAP or a CLAIM, or wait, found their word all the same. */
    private static void usedByStepsThatAreNotDone() {
        int[][] programs = {{Rig.op(Rig.JUMP, 1), -1}, {Rig.op(Rig.JUMP, 1), Rig.op(30)},
            {Rig.op(Rig.JUMP, 1), Rig.op(Rig.LOAD, 16)}, {Rig.op(Rig.JUMP, 1), Rig.op(Rig.DIV, 9)},
            {Rig.op(Rig.JUMP, 1), Rig.op(Rig.READ)}, {Rig.op(Rig.JUMP, 1), Rig.op(Rig.GET, 0)},
            {Rig.op(Rig.JUMP, 1), Rig.op(Rig.GIVE, 0)}, {Rig.op(Rig.JUMP, 1), Rig.op(Rig.ASK)}};
        for (int[] program : programs) {
            Rig rig = new Rig(4, 1, 9);
            rig.load(1, 50, 0, program);
            rig.line("A0");
            rig.x.tick(3);
            rig.x.done(0);
            rig.x.tick(2);
            CHECK.due("done", rig.frame(0), "0.0@5");
            rig.x.tick(1);
            CHECK.due("the word " + program[1], rig.frame(0) + " " + rig.x.job(0, 2), "0.0@6 1");
        }
        Rig rig = new Rig(4, 1, 9);
        rig.load(1, 50, 0, Rig.ints(Rig.op(Rig.JUMP, 16)));
        rig.line("A0");
        rig.x.tick(3);
        rig.x.done(0);
        rig.x.tick(3);
        CHECK.due("a PLACE outside finds no word", rig.frame(0) + " " + rig.x.job(0, 2), "0.0@5 1");
    }

    /** Two pins at once: the operand came, but its word's own segment had gone meanwhile. */
    private static void bothSegmentsOfAnInstructionArePinned() {
        Rig rig = new Rig(4, 1, 9);
        rig.load(3, 50, 0, Rig.ints(Rig.op(Rig.LOAD, 16), Rig.op(Rig.ASK)));
        rig.line("A0");
        rig.x.tick(3);
        rig.x.done(0);
        rig.x.tick(2);
        CHECK.due("its own stays pinned while it wants the operand", rig.frames(2), "0.0p@4 free");
        rig.x.tick(1);
        rig.x.done(0);
        rig.x.tick(1);
        CHECK.due("both are pinned", rig.frames(2), "0.0p@4 0.1p@7");
        rig.x.tick(1);
        CHECK.due("none is pinned", rig.frames(2), "0.0@8 0.1@8");
    }

    /** What is not changed goes without a writing, and what was written is not changed when it comes. */
    private static void changed() {
        Rig rig = new Rig(4, 1, 9);
        rig.load(6, 50, 0, Rig.ints(Rig.op(Rig.STORE, 16), Rig.op(Rig.LOAD, 32), Rig.op(Rig.LOAD, 48),
                Rig.op(Rig.LOAD, 64), Rig.op(Rig.LOAD, 16), Rig.op(Rig.LOAD_X, 17), Rig.op(Rig.STORE_AT, 18),
                Rig.op(Rig.ASK)));
        rig.line("A0");
        for (int i = 0; i < 8; i++) {
            rig.x.tick(i == 0 ? 3 : 4);
            if (rig.x.about(1) == 1) {
                break;
            }
            rig.x.done(0);
        }
        CHECK.due("a store of the same value is a change too", rig.x.about(1), 1);
        CHECK.due("frames", rig.frames(4), "0.0@17 busy 0.2@13 0.3@17");
        rig.settle();
        CHECK.due("changed anew", rig.x.about(9), 6);
        CHECK.due("segment 1 took the place of 2", rig.frame(2).substring(0, 4), "0.1c");
        CHECK.due("segment 4 took that of 1", rig.frame(1).substring(0, 4), "0.4@");
    }

    public static void main(String[] args) {
        wrongOnes();
        fromFreeToFree();
        ofAlikeOnesTheLowest();
        pinnedOnesStay();
        usedByStepsThatAreNotDone();
        bothSegmentsOfAnInstructionArePinned();
        changed();
        CHECK.finish();
    }
}
