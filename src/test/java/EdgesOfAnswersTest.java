/** The boundary cases of promises 7 to 13: the last that is told, the first that is not. */
public final class EdgesOfAnswersTest {
    private static final Check CHECK = new Check();
    private static final int LEAST = Integer.MIN_VALUE;
    private static final int MOST = Integer.MAX_VALUE;

    /** A machine in which every number that can be asked for has something to tell. */
    private static Rig busy(int frames) {
        Rig rig = new Rig(frames, 2, 9);
        for (int k = 0; k < 6; k++) {
            rig.load(8, 50, k == 0 ? 7 : 0, k == 0
                    ? Rig.ints(Rig.op(Rig.GET, 0), Rig.op(Rig.GET, 1), Rig.op(Rig.GET, 2), Rig.op(Rig.PRINT),
                            Rig.op(Rig.READ))
                    : Rig.ints(Rig.op(Rig.LOAD, 20), Rig.op(Rig.LOAD, 40), Rig.op(Rig.ASK)), 9, 9);
            rig.line("A" + k);
            rig.settle();
        }
        return rig;
    }

    /** Promise 7: "NONE for others." */
    private static void process() {
        Rig rig = busy(12);
        rig.line("");
        rig.x.done(1);
        rig.x.done(2);
        CHECK.due("the row", rig.row() + " " + rig.waits(), "978 2555557000");
        for (int what : new int[] {0, 1}) {
            for (int k : new int[] {-1, 10, 11, -2, LEAST, MOST}) {
                CHECK.due("process(" + k + ", " + what + ")", rig.x.process(k, what), -1);
            }
        }
        for (int k = 0; k <= 9; k++) {
            for (int what : new int[] {-1, 2, 3, LEAST, MOST}) {
                CHECK.due("process(" + k + ", " + what + ")", rig.x.process(k, what), -1);
            }
        }
        CHECK.due("process(0, 0), not in the row", rig.x.process(0, 0), -1);
        CHECK.due("process(9, 0), the first", rig.x.process(9, 0), 0);
        CHECK.due("process(8, 0), the last", rig.x.process(8, 0), 2);
        CHECK.due("process(0, 1)", rig.x.process(0, 1), 2);
        CHECK.due("process(9, 1)", rig.x.process(9, 1), 0);
    }

    /** Promise 8: "NONE for others." */
    private static void job() {
        Rig rig = busy(12);
        rig.line("C0");
        rig.x.tick(1);
        CHECK.due("job 0", rig.all(0), "2 0 4 4 0 0 1 1 1 0 0 1 1");
        CHECK.due("job 5", rig.all(5), "2 0 2 2 0 0 0 0 0 0 0 0 0");
        for (int what = 0; what <= 12; what++) {
            for (int k : new int[] {-1, 6, 7, 9, LEAST, MOST}) {
                CHECK.due("job(" + k + ", " + what + ")", rig.x.job(k, what), -1);
            }
        }
        for (int k = 0; k <= 5; k++) {
            for (int what : new int[] {-1, 13, 14, LEAST, MOST}) {
                CHECK.due("job(" + k + ", " + what + ")", rig.x.job(k, what), -1);
            }
        }
    }

    /** Promise 8: "(Of one that is over all stay as they were, 6 to 8, too, though it was given back.)" */
    private static void oneThatIsOver() {
        Rig rig = new Rig(4, 2, 9);
        int[] program = {Rig.op(Rig.GET, 0), Rig.op(Rig.GET, 1), Rig.op(Rig.GET, 2), Rig.op(Rig.GET, 2),
            Rig.op(Rig.READ), Rig.op(Rig.PRINT), Rig.op(Rig.LOAD_X, 9), Rig.op(Rig.ASK), Rig.END, -4};
        rig.load(1, 50, 11, program, 71, 72);
        rig.load(1, 50, 11, program, 81, 82);
        rig.line("A0");
        rig.settle();
        rig.x.done(1);
        rig.settle();
        rig.x.done(2);
        rig.settle();
        rig.line("A1");
        rig.settle();
        CHECK.due("1 waits for the reader", rig.waits(), "5600007777");
        rig.line("C0");
        rig.x.tick(2);
        CHECK.due("told to cancel, not over", rig.all(0), "2 0 7 7 71 -4 1 1 2 1 1 0 1");
        CHECK.due("nothing is free", rig.free(), "0 0 0");
        rig.x.tick(1);
        CHECK.due("over", rig.all(0), "3 5 7 7 71 -4 1 1 2 1 1 0 1");
        CHECK.due("1 has the reader, the rest is free", rig.held(1) + ", " + rig.free(), "1 0 0, 0 1 2");
        rig.settle();
        rig.x.done(1);
        rig.settle();
        rig.x.done(2);
        rig.settle();
        CHECK.due("1 has come as far", rig.all(1), "2 0 7 7 81 -4 1 1 2 1 1 0 0");
        CHECK.due("0 is as it was", rig.all(0), "3 5 7 7 71 -4 1 1 2 1 1 0 1");
        CHECK.due("its paper, too", rig.paper(0), "71");
        rig.line("C0");
        rig.line("A0");
        rig.line("R0 5");
        rig.settle();
        CHECK.due("whatever is typed", rig.all(0) + rig.said(), "3 5 7 7 71 -4 1 1 2 1 1 0 10?/0=5/1?/?/?/?/");
        rig.line("R1 6");
        rig.settle();
        CHECK.due("both are over", rig.all(0) + "," + rig.all(1),
                "3 5 7 7 71 -4 1 1 2 1 1 0 1,3 1 9 9 6 -4 1 1 2 1 1 0 0");
        CHECK.due("all is free", rig.free(), "1 1 2");
    }

    /** Promise 9: "0 when there is none." */
    private static void paper() {
        Rig rig = new Rig(4, 1, 9);
        rig.load(1, 50, 6, Rig.ints(Rig.op(Rig.GET, 1), Rig.op(Rig.GET, 2), Rig.op(Rig.SET, 3), Rig.op(Rig.PRINT),
                Rig.op(Rig.SET, 4), Rig.op(Rig.PRINT), Rig.op(Rig.ASK), Rig.END));
        rig.line("A0");
        rig.settle();
        String[] due = {"0 0 0 0 0", "0 3 0 0 0", "0 3 4 0 0"};
        for (int lines = 0; lines <= 2; lines++) {
            StringBuilder got = new StringBuilder();
            for (int i = -1; i <= 3; i++) {
                got.append(i == -1 ? "" : " ").append(rig.x.paper(0, i));
            }
            CHECK.due("with " + lines + " lines", got.toString(), due[lines]);
            rig.x.done(2);
            CHECK.due("not before PRINTING's step", rig.x.paper(0, lines), 0);
            rig.settle();
        }
        for (int k : new int[] {-1, 1, 5, 6, LEAST, MOST}) {
            CHECK.due("paper(" + k + ", 0)", rig.x.paper(k, 0), 0);
        }
        CHECK.due("paper(0, least)", rig.x.paper(0, LEAST), 0);
        CHECK.due("paper(0, most)", rig.x.paper(0, MOST), 0);
        rig.line("R0 1");
        rig.settle();
        CHECK.due("of one that is over", rig.x.job(0, 0) + " " + rig.paper(0) + " " + rig.x.paper(0, 2), "3 3 4 0");
        rig.load(1, 50, 0, Rig.ints(1));
        CHECK.due("of a new one", rig.x.paper(0, 0) + " " + rig.x.paper(0, 1), "0 0");
    }

    /** Promise 10: "0 when there is none such, or the job is over." */
    private static void noSuchWord() {
        for (int segments = 1; segments <= 8; segments++) {
            Rig rig = new Rig(4, 1, 9);
            int[] program = new int[16 * segments];
            java.util.Arrays.fill(program, Rig.op(Rig.ASK));
            rig.load(segments, 50, 0, program);
            int last = 16 * segments - 1;
            for (int round = 0; round < 2; round++) {
                String when = segments + " segments, " + (round == 0 ? "on the drum" : "in core");
                CHECK.due(when + ", word 0", rig.x.word(0, 0), Rig.op(Rig.ASK));
                CHECK.due(when + ", the last", rig.x.word(0, last), Rig.op(Rig.ASK));
                for (int address : new int[] {-1, last + 1, 128, 255, LEAST, MOST}) {
                    CHECK.due(when + ", word " + address, rig.x.word(0, address), 0);
                }
                for (int k : new int[] {-1, 1, 5, 6, LEAST, MOST}) {
                    CHECK.due(when + ", of job " + k, rig.x.word(k, 0), 0);
                }
                rig.line("A0");
                rig.settle();
            }
            rig.line("C0");
            rig.x.tick(2);
            CHECK.due("it begins to end", rig.x.word(0, 0), Rig.op(Rig.ASK));
            rig.x.tick(1);
            CHECK.due("it is over", rig.x.job(0, 0) + " " + rig.x.word(0, 0) + " " + rig.x.word(0, last), "3 0 0");
        }
    }

    /** A smaller deck under the number of a larger one has none of the larger one's words. */
    private static void aSmallerDeck() {
        Rig rig = new Rig(4, 1, 9);
        int[] large = new int[128];
        java.util.Arrays.fill(large, 5);
        large[0] = Rig.op(Rig.STORE, 100);
        large[1] = Rig.END;
        rig.load(8, 50, 0, large);
        rig.line("A0");
        rig.settle();
        CHECK.due("over", rig.x.job(0, 0), 3);
        rig.load(1, 50, 0, Rig.ints(6));
        for (int address = 0; address <= 128; address++) {
            CHECK.due("word " + address, rig.x.word(0, address), address == 0 ? 6 : 0);
        }
        rig.line("A0");
        rig.settle();
        CHECK.due("over again", rig.x.job(0, 0), 3);
    }

    /** Promise 10: "(of a segment that is being written: as it is written)". */
    private static void whileItIsWritten() {
        Rig rig = new Rig(4, 1, 9);
        rig.load(5, 50, 0, Rig.ints(Rig.op(Rig.SET, 7), Rig.op(Rig.STORE, 16), Rig.op(Rig.STORE, 31),
                Rig.op(Rig.LOAD, 32), Rig.op(Rig.LOAD, 48), Rig.op(Rig.LOAD, 64), Rig.op(Rig.ASK)));
        rig.line("A0");
        for (int i = 0; i < 20 && rig.x.about(1) != 1; i++) {
            rig.x.done(0);
            rig.x.tick(4);
        }
        CHECK.due("segment 1 is written", rig.frame(1) + " " + rig.x.about(1), "busy 1");
        CHECK.due("its first word", rig.x.word(0, 16), 7);
        CHECK.due("one that was not stored", rig.x.word(0, 17), 0);
        CHECK.due("its last word", rig.x.word(0, 31), 7);
        CHECK.due("those beside it", rig.x.word(0, 15) + " " + rig.x.word(0, 32), "0 0");
        rig.x.done(0);
        CHECK.due("when it is written", rig.x.word(0, 16) + " " + rig.x.word(0, 31), "7 7");
        rig.x.tick(1);
        CHECK.due("when the next is read", rig.x.about(1) + " " + rig.x.word(0, 16) + " " + rig.x.word(0, 31), "2 7 7");
        CHECK.due("which is as on the drum", rig.x.word(0, 64), 0);
        rig.settle();
        CHECK.due("when the next is there", rig.frame(1).substring(0, 4) + rig.x.word(0, 16) + rig.x.word(0, 64),
                "0.4@70");
    }

    /** Promise 11: "(1 to 4: NONE when it is FREE or BUSY)" and "NONE for others." */
    private static void frame() {
        for (int frames = 4; frames <= 12; frames++) {
            Rig rig = new Rig(frames, 1, 9);
            int[] program = new int[8];
            for (int i = 0; i < 7; i++) {
                program[i] = Rig.op(Rig.LOAD, 16 * (i + 1));
            }
            program[7] = Rig.op(Rig.JUMP, 0);
            rig.load(8, 5000, 0, program);
            rig.load(8, 5000, 0, program);
            rig.line("A1");
            rig.line("A0");
            CHECK.due("the last is FREE", told(rig, frames - 1), "-1 -1 -1 -1 -1");
            for (int i = 0; i < 300 && rig.x.frame(frames - 1, 0) == -1; i++) {
                rig.x.done(0);
                rig.x.tick(1);
            }
            CHECK.due("the last of " + frames + " is BUSY", told(rig, frames - 1), "-2 -1 -1 -1 -1");
            CHECK.due("there is no other behind it", told(rig, frames), "-1 -1 -1 -1 -1");
            for (int i = 0; i < 300 && rig.x.frame(frames - 1, 0) < 0; i++) {
                rig.x.done(0);
                rig.x.tick(1);
            }
            CHECK.due("the last of " + frames + " has a segment", told(rig, frames - 1).matches("[01] [1-7] 0 1 \\d+"),
                    true);
            CHECK.due("the first is neither CHANGED nor PINNED", told(rig, 0).matches("[01] [0-7] 0 0 \\d+"), true);
            for (int f : new int[] {-1, -2, frames, LEAST, MOST}) {
                CHECK.due("frame " + f, told(rig, f), "-1 -1 -1 -1 -1");
            }
            for (int what : new int[] {-1, 5, 6, LEAST, MOST}) {
                CHECK.due("frame(0, " + what + ")", rig.x.frame(0, what), -1);
                CHECK.due("frame(last, " + what + ")", rig.x.frame(frames - 1, what), -1);
            }
        }
    }

    private static String told(Rig rig, int f) {
        StringBuilder text = new StringBuilder();
        for (int what = 0; what <= 4; what++) {
            text.append(what == 0 ? "" : " ").append(rig.x.frame(f, what));
        }
        return text.toString();
    }

    /** Promise 12: "NONE for others." */
    private static void about() {
        Rig rig = busy(12);
        rig.line("C0");
        int[] due = {rig.x.tick(0), 0, 1, 1, 0, 0, 1, 15, 6, 16, 1};
        for (int what = 0; what <= 10; what++) {
            CHECK.due("about(" + what + ")", rig.x.about(what), due[what]);
        }
        for (int what : new int[] {-1, 11, -2, 12, LEAST, MOST}) {
            CHECK.due("about(" + what + ")", rig.x.about(what), -1);
        }
    }

    /**
     * Promise 12: "bytes that the console said (all, also those that were not kept)"; promise 13: "(of the first
     * 600); NONE when there is none."
     */
    private static void sixHundredBytes() {
        Rig rig = new Rig(4, 1, 9);
        CHECK.due("nothing said", rig.x.about(7) + " " + rig.x.octet(0), "0 -1");
        rig.wrongLines(1);
        CHECK.due("the first", rig.x.about(7) + " " + rig.x.octet(0) + " " + rig.x.octet(1), "2 63 10");
        CHECK.due("no third", rig.x.octet(2), -1);
        CHECK.due("none ahead of the first", rig.x.octet(-1), -1);
        rig.wrongLines(298);
        CHECK.due("598 said", rig.x.about(7) + " " + rig.x.octet(597) + " " + rig.x.octet(598), "598 10 -1");
        rig.wrongLines(1);
        CHECK.due("600 said", rig.x.about(7) + " " + rig.x.octet(598) + " " + rig.x.octet(599), "600 63 10");
        CHECK.due("no more", rig.x.octet(600), -1);
        rig.wrongLines(1);
        CHECK.due("602 said", rig.x.about(7), 602);
        CHECK.due("600 kept", rig.x.octet(599) + " " + rig.x.octet(600) + " " + rig.x.octet(601), "10 -1 -1");
        CHECK.due("the first is kept", rig.x.octet(0) + " " + rig.x.octet(1), "63 10");
        for (int i : new int[] {-1, 602, LEAST, MOST}) {
            CHECK.due("octet(" + i + ")", rig.x.octet(i), -1);
        }
    }

    public static void main(String[] args) {
        process();
        job();
        oneThatIsOver();
        paper();
        noSuchWord();
        aSmallerDeck();
        whileItIsWritten();
        frame();
        about();
        sixHundredBytes();
        CHECK.finish();
    }
}
