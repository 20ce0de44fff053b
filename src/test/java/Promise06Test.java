/** Promise 6: type, and the console's lines of PART 5. */
public final class Promise06Test {
    private static final Check CHECK = new Check();

    private static void theBytes() {
        for (int b = -3; b <= 260; b++) {
            DrumLayers x = new DrumLayers(4, 1, 1);
            CHECK.due("type(" + b + ")", x.type(b), b == 10 || b >= 32 && b <= 126);
            CHECK.due("lines behind type(" + b + ")", x.about(10), b == 10 ? 1 : 0);
        }
        DrumLayers x = new DrumLayers(4, 1, 1);
        CHECK.due("type(least)", x.type(Integer.MIN_VALUE), false);
        CHECK.due("type(most)", x.type(Integer.MAX_VALUE), false);
    }

    private static void twentyBytes() {
        Rig rig = new Rig(4, 1, 1);
        for (int i = 0; i < 20; i++) {
            CHECK.due("byte " + i, rig.x.type('x'), true);
        }
        CHECK.due("byte 20", rig.x.type('x'), false);
        CHECK.due("byte 20 again", rig.x.type(' '), false);
        CHECK.due("but a 10", rig.x.type(10), true);
        CHECK.due("a new line", rig.x.type('x'), true);
        rig.x.tick(1);
        CHECK.due("said", rig.said(), "?/");
    }

    private static void eightLines() {
        Rig rig = new Rig(4, 1, 9);
        rig.load(1, 9, 0, Rig.ints(Rig.END));
        for (int i = 0; i < 8; i++) {
            CHECK.due("line " + i, rig.x.type(10), true);
            CHECK.due("lines", rig.x.about(10), i + 1);
        }
        CHECK.due("line 8", rig.x.type(10), false);
        CHECK.due("bytes of line 8", rig.x.type('A'), true);
        CHECK.due("bytes of line 8", rig.x.type('0'), true);
        CHECK.due("line 8 again", rig.x.type(10), false);
        CHECK.due("lines", rig.x.about(10), 8);
        rig.x.tick(1);
        CHECK.due("one is done", rig.x.about(10), 7);
        CHECK.due("line 8 then", rig.x.type(10), true);
        CHECK.due("one more", rig.x.type(10), false);
        rig.x.tick(8);
        CHECK.due("its bytes were kept", rig.x.job(0, 0), 2);
        CHECK.due("all are done", rig.x.about(10), 0);
        CHECK.due("said", rig.said(), "?/?/?/?/?/?/?/?/");
    }

    private static void eightFullLines() {
        Rig rig = new Rig(4, 1, 9);
        for (int i = 0; i < 8; i++) {
            rig.line("12345678901234567890");
        }
        rig.load(1, 9, 0, Rig.ints(Rig.END));
        for (char c : "12345678901234567890".toCharArray()) {
            CHECK.due("a byte of the ninth", rig.x.type(c), true);
        }
        CHECK.due("the twenty-first", rig.x.type('1'), false);
        CHECK.due("the ninth", rig.x.type(10), false);
        rig.x.tick(9);
        CHECK.due("the ninth then", rig.x.type(10), true);
        rig.line("A0");
        rig.x.tick(2);
        CHECK.due("and the next", rig.x.job(0, 0), 2);
    }

    private static void refusedBytesAreNoPart() {
        Rig rig = new Rig(4, 1, 9);
        rig.load(1, 9, 0, Rig.ints(Rig.END));
        rig.x.type('A');
        rig.x.type(127);
        rig.x.type(13);
        rig.x.type('0');
        rig.x.type(9);
        rig.x.type(10);
        rig.x.tick(1);
        CHECK.due("admitted", rig.x.job(0, 0), 2);
    }

    /** Which lines are understood of a job that waits for admission: only A0. */
    private static void otherLines() {
        String[] wrong = {"", "A", "0", "A00", "A0 ", " A0", "a0", "A1", "A6", "A9", "A/", "A:", "AA", "B0",
            "C0", "C", "C1", "C7", "R0 1", "R", "0A", "?", "A 0", "X0", "A0A0"};
        for (String text : wrong) {
            Rig rig = new Rig(4, 1, 9);
            rig.load(1, 9, 0, Rig.ints(Rig.END));
            rig.line(text);
            rig.x.tick(1);
            CHECK.due("'" + text + "'", rig.said() + rig.x.job(0, 0) + rig.x.job(0, 12), "?/10");
        }
        Rig rig = new Rig(4, 1, 9);
        rig.load(1, 9, 0, Rig.ints(Rig.END));
        rig.line("A0");
        rig.x.tick(1);
        CHECK.due("'A0'", rig.said() + rig.x.job(0, 0), "2");
        rig.line("A0");
        rig.x.tick(2);
        CHECK.due("'A0' of one admitted", rig.said(), "?/");
        rig.finish(0);
        rig.line("A0");
        rig.line("C0");
        rig.x.tick(2);
        CHECK.due("of one that is over", rig.said(), "?/0=1/?/?/");
    }

    private static Rig waitingForReply() {
        Rig rig = new Rig(4, 1, 9);
        rig.load(1, 9, 0, Rig.ints(Rig.op(Rig.SET, 200), Rig.op(Rig.ASK), Rig.op(Rig.ASK)));
        rig.line("A0");
        rig.settle();
        CHECK.due("it asks", rig.said() + rig.waits(), "0?/5000007777");
        return rig;
    }

    private static void theReplies() {
        String[] right = {"R0 0", "R0 7", "R0 -7", "R0 123456789", "R0 -999999999", "R0 000000012", "R0 -0"};
        int[] numbers = {0, 7, -7, 123456789, -999999999, 12, 0};
        for (int i = 0; i < right.length; i++) {
            Rig rig = waitingForReply();
            rig.line(right[i]);
            rig.x.tick(1);
            CHECK.due("'" + right[i] + "'", rig.registers(0), "2 0 2 2 " + numbers[i] + " 0");
            CHECK.due("'" + right[i] + "' wakes it", rig.row() + rig.waits() + rig.said(), "000000077770?/");
        }
        String[] wrong = {"R0", "R0 ", "R0 -", "R0  7", "R0 7 ", "R0 +7", "R0 --7", "R0 1234567890",
            "R0 -1234567890", "R0 7a", "R0-7", "R07", "R1 7", "R6 7", "r0 7", "R0 1-", "R0 -000000000000000",
            "R00 7", "R0 12/", "R0 12:"};
        for (String text : wrong) {
            Rig rig = waitingForReply();
            rig.line(text);
            rig.x.tick(1);
            CHECK.due("'" + text + "'", rig.said() + rig.registers(0), "0?/?/2 0 1 1 200 0");
            CHECK.due("'" + text + "' waits on", rig.waits(), "5000007777");
        }
        Rig rig = waitingForReply();
        rig.line("R0 1");
        rig.line("R0 2");
        rig.x.tick(2);
        CHECK.due("not waiting when the second comes", rig.said() + rig.x.job(0, 4), "0?/?/1");
    }

    private static void howManyAreAdmitted() {
        for (int frames = 4; frames <= 12; frames++) {
            Rig rig = new Rig(frames, 1, 9);
            for (int k = 0; k < 6; k++) {
                rig.load(1, 9, 0, Rig.ints(Rig.END));
                rig.line("A" + k);
                rig.x.tick(20);
            }
            CHECK.due("admitted with " + frames + " frames", rig.x.about(8), frames / 2);
            CHECK.due("the others were refused", rig.x.about(7), 2 * (6 - frames / 2));
        }
        Rig rig = new Rig(4, 1, 9);
        for (int k = 0; k < 3; k++) {
            rig.load(1, 9, 0, Rig.ints(Rig.END));
            rig.line("A" + k);
        }
        rig.x.tick(20);
        CHECK.due("the third is refused", rig.said() + rig.x.job(2, 0), "?/1");
        rig.finish(0);
        rig.line("A2");
        rig.x.tick(20);
        CHECK.due("when one is over it is admitted", rig.x.job(2, 0), 2);
    }

    public static void main(String[] args) {
        theBytes();
        twentyBytes();
        eightLines();
        eightFullLines();
        refusedBytesAreNoPart();
        otherLines();
        theReplies();
        howManyAreAdmitted();
        CHECK.finish();
    }
}
