/** The boundary cases of PART 3: which frame is chosen, and what is written of a job that is over. */
public final class EdgesOfPart3Test {
    private static final Check CHECK = new Check();

    /** Job 0 alone in four frames, until the drum begins to bring it its fifth segment. */
    private static Rig wantingAFifth(int... program) {
        Rig rig = new Rig(4, 1, 9);
        rig.load(8, 50, 0, program);
        rig.line("A0");
        for (int i = 0; i < 100 && (rig.x.about(9) < 4 || rig.x.about(1) == 0); i++) {
            rig.x.done(0);
            rig.x.tick(1);
        }
        return rig;
    }

    /** "that USED least lately (of alike ones the lowest)": frames 0 and 1 in one tick, or one of them later. */
    private static void ofAlikeOnesTheLowest() {
        int[] program = new int[20];
        program[0] = Rig.op(Rig.JUMP, 15);
        program[15] = Rig.op(Rig.LOAD, 32);
        program[16] = Rig.op(Rig.LOAD, 48);
        program[17] = Rig.op(Rig.LOAD, 64);
        CHECK.due("0 and 1 alike", wantingAFifth(program).frames(4), "busy 0.2@9 0.1@16 0.3@16");

        program[0] = Rig.op(Rig.JUMP, 14);
        program[14] = Rig.op(Rig.LOAD, 32);
        program[15] = Rig.op(Rig.SET, 1);
        CHECK.due("0 a tick later than 1", wantingAFifth(program).frames(4), "0.0@10 busy 0.1@17 0.3@17");

        int[] high = new int[34];
        high[0] = Rig.op(Rig.LOAD, 32);
        high[1] = Rig.op(Rig.LOAD, 48);
        high[2] = Rig.op(Rig.JUMP, 31);
        high[31] = Rig.op(Rig.LOAD, 48);
        high[32] = Rig.op(Rig.LOAD, 0);
        high[33] = Rig.op(Rig.LOAD, 64);
        CHECK.due("2 and 3 alike, 0 and 1 later", wantingAFifth(high).frames(4), "0.0@18 0.2@18 busy 0.1@17");

        high[31] = Rig.op(Rig.SET, 1);
        high[32] = Rig.op(Rig.LOAD, 48);
        CHECK.due("0 ahead of the others", wantingAFifth(high).frames(4), "busy 0.2@18 0.3@18 0.1@17");
    }

    /** Two jobs, each with two segments, in the frames 0 and 2, 1 and 3. */
    private static Rig interleaved() {
        Rig rig = new Rig(4, 1, 9);
        rig.load(2, 50, 0, Rig.ints(Rig.op(Rig.ASK), Rig.op(Rig.LOAD, 16), Rig.op(Rig.ASK), Rig.END));
        rig.load(8, 50, 0, Rig.ints(Rig.op(Rig.ASK), Rig.op(Rig.LOAD, 16), Rig.op(Rig.ASK), Rig.op(Rig.LOAD, 32),
                Rig.op(Rig.LOAD, 48), Rig.op(Rig.ASK), Rig.op(Rig.LOAD, 64), Rig.op(Rig.ASK)));
        for (String line : new String[] {"A0", "A1", "R0 0", "R1 1"}) {
            rig.line(line);
            rig.settle();
        }
        CHECK.due("interleaved", rig.frames(4).replaceAll("@\\d+", ""), "0.0 1.0 0.1 1.1");
        return rig;
    }

    /** "the lowest FREE one; else of those not BUSY and not PINNED ..". */
    private static void theLowestFree() {
        Rig rig = interleaved();
        rig.line("R0 0");
        rig.settle();
        CHECK.due("0 and 2 are FREE", rig.frames(4).replaceAll("@\\d+", ""), "free 1.0 free 1.1");
        rig.line("R1 1");
        rig.x.tick(4);
        CHECK.due("the lowest FREE one", rig.frames(4).replaceAll("@\\d+", ""), "busy 1.0 free 1.1");
        rig.x.done(0);
        rig.x.tick(4);
        CHECK.due("the last FREE one, though 1 and 3 were used longer ago", rig.frames(4).replaceAll("@\\d+", ""),
                "1.2 1.0 busy 1.1");
        rig.settle();
        rig.line("R1 1");
        rig.x.tick(3);
        CHECK.due("no FREE one is left", rig.frames(4).replaceAll("@\\d+", ""), "1.2 1.0 1.3 busy");
    }

    /** Job 0 waits for a reply with its segment PINNED, job 1 has the other frames. */
    private static Rig pinned() {
        Rig rig = new Rig(4, 1, 1);
        rig.load(1, 50, 0, Rig.ints(Rig.op(Rig.ASK), Rig.op(Rig.ASK)));
        rig.load(8, 50, 0, Rig.ints(Rig.op(Rig.LOAD, 16), Rig.op(Rig.LOAD, 32), Rig.op(Rig.ASK),
                Rig.op(Rig.LOAD, 48), Rig.op(Rig.ASK)));
        rig.line("A0");
        rig.settle();
        rig.line("A1");
        rig.settle();
        CHECK.due("pinned", rig.frames(4).replaceAll("@\\d+", ""), "0.0p 1.0 1.1 1.2");
        return rig;
    }

    /** "not PINNED": what is used least lately stays while it is, and goes when it is not. */
    private static void pinnedOrNot() {
        Rig rig = pinned();
        rig.line("R1 5");
        rig.x.tick(3);
        CHECK.due("0 is PINNED", rig.frames(4).replaceAll("@\\d+", ""), "0.0p 1.0 busy 1.2");
        rig = pinned();
        rig.line("R1 5");
        rig.line("R0 4");
        rig.x.tick(3);
        CHECK.due("0 is not, 6 stands ahead of it", rig.row() + " " + rig.frames(4).replaceAll("@\\d+", ""),
                "60 0.0 1.0 1.1 1.2");
        rig.x.tick(1);
        CHECK.due("0 goes", rig.frames(4).replaceAll("@\\d+", ""), "busy 1.0 1.1 1.2");
        rig.x.tick(1);
        CHECK.due("and is wanted anew", rig.row() + " " + rig.waits(), " 1100008777");
        rig.settle();
        CHECK.due("both come", rig.waits() + " " + rig.said(), "5500007777 0?/1?/1?/0?/");
    }

    /** "If that was CHANGED the drum begins to write it, else it begins to read the one wanted". */
    private static void changedOrNot() {
        int[] program = {Rig.op(Rig.LOAD, 16), Rig.op(Rig.LOAD, 32), Rig.op(Rig.LOAD, 48), Rig.op(Rig.LOAD, 64)};
        Rig rig = wantingAFifth(program);
        CHECK.due("not changed", rig.frame(1) + " " + rig.x.about(1), "busy 2");
        program[0] = Rig.op(Rig.STORE, 16);
        rig = wantingAFifth(program);
        CHECK.due("changed", rig.frame(1) + " " + rig.x.about(1), "busy 1");
        rig.x.done(0);
        CHECK.due("the drum rests", rig.x.about(1) + " " + rig.row(), "0 6");
        rig.x.tick(1);
        CHECK.due("then it reads", rig.frame(1) + " " + rig.x.about(1) + " " + rig.x.about(9), "busy 2 4");
        rig.x.done(0);
        rig.x.tick(1);
        CHECK.due("brought", rig.frame(1).substring(0, 5) + " " + rig.x.about(1) + " " + rig.x.about(9), "0.4p@ 0 5");
    }

    /** "the tick of the latest step of its job that found in it .. and wanted no segment (also one .. in a TRAP)". */
    private static void usedOrNot() {
        int[][] words = {{-1, 6}, {Rig.op(20), 6}, {Rig.op(Rig.LOAD, 16), 6}, {Rig.op(Rig.DIV, 15), 6},
            {Rig.op(Rig.GET, 0), 6}, {Rig.op(Rig.GET, 3), 6}, {Rig.op(Rig.ASK), 6}, {Rig.op(Rig.SET, 1), 6},
            {Rig.op(Rig.END), 6}};
        for (int[] word : words) {
            Rig rig = new Rig(4, 1, 9);
            rig.load(1, 50, 0, Rig.ints(Rig.op(Rig.SET, 1), word[0]));
            rig.line("A0");
            rig.x.tick(3);
            rig.x.done(0);
            rig.x.tick(1);
            CHECK.due("it came", rig.frame(0), "0.0p@4");
            rig.x.tick(1);
            CHECK.due("a step", rig.frame(0), "0.0@5");
            rig.x.tick(1);
            CHECK.due("the word " + word[0], rig.frame(0), "0.0@" + word[1]);
        }
        Rig rig = new Rig(4, 1, 9);
        rig.load(2, 50, 0, Rig.ints(Rig.op(Rig.SET, 1), Rig.op(Rig.DIV, 16)));
        rig.line("A0");
        rig.x.tick(3);
        rig.x.done(0);
        rig.x.tick(3);
        CHECK.due("a step that wants a segment", rig.frames(2), "0.0@5 free");
        rig.x.tick(1);
        rig.x.done(0);
        rig.x.tick(1);
        CHECK.due("it came", rig.frames(2), "0.0@5 0.1p@8");
        rig.x.tick(1);
        CHECK.due("a TRAP with both", rig.frames(2), "0.0@9 0.1p@9");

        rig = new Rig(4, 1, 9);
        rig.load(1, 1, 0, Rig.ints(Rig.op(Rig.JUMP, 99), Rig.op(Rig.SET, 1)));
        rig.line("A0");
        rig.x.tick(3);
        rig.x.done(0);
        rig.x.tick(3);
        CHECK.due("a step that begins to end at the limit finds no word", rig.frame(0), "0.0@5");
    }

    /** Segment 0, the last word of segment 7: each goes to the drum and comes back whole. */
    private static void theFirstAndTheLastSegment() {
        Rig rig = new Rig(4, 1, 9);
        int[] program = new int[31];
        program[0] = Rig.op(Rig.SET, 33);
        program[1] = Rig.op(Rig.STORE, 0);
        program[2] = Rig.op(Rig.STORE, 127);
        program[3] = Rig.op(Rig.JUMP, 16);
        for (int i = 2; i <= 6; i++) {
            program[14 + i] = Rig.op(Rig.LOAD, 16 * i);
        }
        program[21] = Rig.op(Rig.LOAD_X, 0);
        program[22] = Rig.op(Rig.LOAD, 127);
        program[23] = Rig.END;
        rig.load(8, 50, 0, program);
        rig.line("A0");
        int writings = 0;
        for (int i = 0; i < 200 && rig.x.job(0, 0) != 3; i++) {
            rig.x.tick(1);
            writings += rig.x.about(1) == 1 ? 1 : 0;
            rig.x.done(0);
            if (rig.x.job(0, 0) == 2 && rig.x.job(0, 2) >= 3) {
                CHECK.due("both words", rig.x.word(0, 0) + " " + rig.x.word(0, 127), "33 33");
            }
        }
        CHECK.due("both were written", writings, 2);
        CHECK.due("and came back", rig.registers(0), "3 1 12 24 33 33");
    }

    /** The drum writes segment 1 of job 0, which waits for a reply, as job 1 needs its frame. */
    private static Rig writing() {
        Rig rig = new Rig(4, 1, 9);
        rig.load(2, 50, 0, Rig.ints(Rig.op(Rig.SET, 5), Rig.op(Rig.STORE, 16), Rig.op(Rig.STORE, 31), Rig.op(Rig.ASK),
                Rig.op(Rig.LOAD, 31), Rig.END));
        rig.load(3, 50, 0, Rig.ints(Rig.op(Rig.LOAD, 16), Rig.op(Rig.LOAD, 32), Rig.op(Rig.ASK)));
        rig.line("A0");
        rig.settle();
        rig.line("A1");
        for (int i = 0; i < 40 && rig.x.about(1) != 1; i++) {
            rig.x.done(0);
            rig.x.tick(1);
        }
        CHECK.due("writing", rig.frame(1) + " " + rig.x.about(1) + " " + rig.waits(), "busy 1 5100008777");
        CHECK.due("what is written", rig.x.word(0, 16) + " " + rig.x.word(0, 31), "5 5");
        return rig;
    }

    /** Not over by then: the words are written, and come back. */
    private static void notOverByThen() {
        Rig rig = writing();
        rig.x.done(0);
        rig.settle();
        CHECK.due("job 1 has the frame", rig.x.frame(1, 0), 1);
        CHECK.due("written", rig.x.word(0, 16) + " " + rig.x.word(0, 31), "5 5");
        rig.line("R0 9");
        rig.settle();
        CHECK.due("they come back", rig.registers(0), "3 1 6 6 5 0");

        rig = writing();
        rig.line("C0");
        rig.x.tick(2);
        CHECK.due("it begins to end", rig.x.job(0, 0) + " " + rig.row(), "2 0");
        CHECK.due("done a tick ahead of its end", rig.x.done(0), true);
        CHECK.due("written", rig.x.word(0, 16) + " " + rig.x.word(0, 31), "5 5");
        rig.x.tick(1);
        CHECK.due("over", rig.x.job(0, 0) + " " + rig.x.word(0, 16), "3 0");
    }

    /** "of a job that is over by then none are written, also if its number has a new job by then". */
    private static void overByThen() {
        for (int when = 0; when < 3; when++) {
            Rig rig = writing();
            rig.line("C0");
            rig.x.tick(3);
            CHECK.due("over, the drum writes on", rig.x.job(0, 0) + " " + rig.x.about(1), "3 1");
            CHECK.due("its other frame is free, this one busy", rig.frame(0) + " " + rig.frame(1), "free busy");
            if (when == 0) {
                rig.x.done(0);
            }
            CHECK.due("the new job", rig.load(2, 50, 0, Rig.ints(Rig.op(Rig.LOAD, 31), Rig.op(Rig.ADD, 16), 0)), 0);
            CHECK.due("its words", rig.x.word(0, 16) + " " + rig.x.word(0, 31), "0 0");
            if (when == 2) {
                rig.line("A0");
                rig.x.tick(2);
                CHECK.due("it wants its segment", rig.waits(), "1100008777");
            }
            CHECK.due("done", rig.x.done(0), when != 0);
            CHECK.due("its words then", rig.x.word(0, 0) + " " + rig.x.word(0, 16) + " " + rig.x.word(0, 31),
                    Rig.op(Rig.LOAD, 31) + " 0 0");
            rig.settle();
            CHECK.due("job 1 has its segment all the same", rig.x.process(1, 1), 5);
            if (when != 2) {
                rig.line("A0");
            }
            rig.settle();
            CHECK.due("the new job reads its own words", rig.registers(0), "3 1 3 3 0 0");
        }
    }

    /** "of a job that is over by then": that another one is over does not keep the words from the drum. */
    private static void anotherIsOverByThen() {
        Rig rig = new Rig(4, 1, 9);
        rig.load(8, 50, 0, Rig.ints(Rig.op(Rig.SET, 5), Rig.op(Rig.STORE, 16), Rig.op(Rig.STORE, 32),
                Rig.op(Rig.STORE, 48), Rig.op(Rig.SET, 0), Rig.op(Rig.LOAD, 16), Rig.END));
        rig.load(1, 50, 0, Rig.ints(Rig.op(Rig.ASK)));
        rig.line("A1");
        rig.settle();
        rig.line("A0");
        for (int i = 0; i < 60 && rig.x.about(1) != 1; i++) {
            rig.x.done(0);
            rig.x.tick(1);
        }
        CHECK.due("writing", rig.x.about(1) + " " + rig.x.word(0, 16) + " " + rig.waits(), "1 5 1500008777");
        rig.line("C1");
        rig.x.tick(3);
        CHECK.due("the other is over", rig.x.job(1, 0) + " " + rig.x.about(1) + " " + rig.x.word(0, 16), "3 1 5");
        rig.x.done(0);
        CHECK.due("written", rig.x.about(1) + " " + rig.x.word(0, 16), "0 5");
        rig.settle();
        CHECK.due("it came back", rig.registers(0), "3 1 7 7 5 0");
    }

    /** One whose number was an old one's is written like others. */
    private static void theNewJobIsWritten() {
        Rig rig = writing();
        rig.line("C0");
        rig.x.tick(3);
        rig.load(2, 50, 0, Rig.ints(Rig.op(Rig.SET, 8), Rig.op(Rig.STORE, 16), Rig.op(Rig.ASK)));
        rig.settle();
        rig.line("C1");
        rig.settle();
        rig.load(4, 50, 0, Rig.ints(Rig.op(Rig.LOAD, 16), Rig.op(Rig.LOAD, 32), Rig.op(Rig.LOAD, 48), Rig.op(Rig.ASK)));
        rig.line("A0");
        rig.settle();
        rig.line("A1");
        for (int i = 0; i < 60 && rig.x.about(1) != 1; i++) {
            rig.x.done(0);
            rig.x.tick(1);
        }
        CHECK.due("the new job's segment is written", rig.x.about(1) + " " + rig.x.word(0, 16), "1 8");
        rig.settle();
        CHECK.due("it was", rig.x.about(1) + " " + rig.x.word(0, 16), "0 8");
    }

    public static void main(String[] args) {
        ofAlikeOnesTheLowest();
        theLowestFree();
        pinnedOrNot();
        changedOrNot();
        usedOrNot();
        theFirstAndTheLastSegment();
        notOverByThen();
        overByThen();
        anotherIsOverByThen();
        theNewJobIsWritten();
        CHECK.finish();
    }
}
