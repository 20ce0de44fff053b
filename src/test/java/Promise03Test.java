/** Promise 3: submit. */
public final class Promise03Test {
    private static final Check CHECK = new Check();

    /** The answer with eight ints on the tape, and that the tape is empty behind it. */
    private static int submitOnEight(int program, int cards, int segments, int limit, int claims) {
        DrumLayers x = new DrumLayers(4, 2, 1);
        x.feed(1, 2, 3, 4);
        x.feed(5, 6, 7, 8);
        int answer = x.submit(program, cards, segments, limit, claims);
        CHECK.due("job 0 behind a submit", x.job(0, 0), answer == -1 ? 0 : 1);
        CHECK.due("tape behind a submit", x.feed(0, 0, 0, 0), 4);
        return answer;
    }

    private static void whatMayBe() {
        CHECK.due("all ints", submitOnEight(5, 3, 1, 1, 0), 0);
        CHECK.due("fewer ints", submitOnEight(1, 1, 8, 5000, 11), 0);
        CHECK.due("no program, no cards", submitOnEight(0, 0, 1, 100, 0), 0);
        CHECK.due("cards alone", submitOnEight(0, 8, 1, 100, 3), 0);
        CHECK.due("nine ints", submitOnEight(5, 4, 1, 1, 0), -1);
        CHECK.due("many ints", submitOnEight(16, 40, 8, 1, 0), -1);
        CHECK.due("program below 0", submitOnEight(-1, 3, 1, 1, 0), -1);
        CHECK.due("least program", submitOnEight(Integer.MIN_VALUE, 3, 1, 1, 0), -1);
        CHECK.due("most program", submitOnEight(Integer.MAX_VALUE, 3, 1, 1, 0), -1);
        CHECK.due("cards below 0", submitOnEight(5, -1, 1, 1, 0), -1);
        CHECK.due("least cards", submitOnEight(5, Integer.MIN_VALUE, 1, 1, 0), -1);
        CHECK.due("most cards", submitOnEight(5, Integer.MAX_VALUE, 1, 1, 0), -1);
        CHECK.due("no segment", submitOnEight(0, 0, 0, 1, 0), -1);
        CHECK.due("nine segments", submitOnEight(5, 0, 9, 1, 0), -1);
        CHECK.due("most segments", submitOnEight(5, 0, Integer.MAX_VALUE, 1, 0), -1);
        CHECK.due("segments below 0", submitOnEight(0, 0, -1, 1, 0), -1);
        CHECK.due("limit 0", submitOnEight(5, 0, 1, 0, 0), -1);
        CHECK.due("limit 5001", submitOnEight(5, 0, 1, 5001, 0), -1);
        CHECK.due("limit below 0", submitOnEight(5, 0, 1, -1, 0), -1);
        CHECK.due("claims below 0", submitOnEight(5, 0, 1, 1, -1), -1);
        CHECK.due("least claims", submitOnEight(5, 0, 1, 1, Integer.MIN_VALUE), -1);
        CHECK.due("claims three pages of two", submitOnEight(5, 0, 1, 1, 12), -1);
        CHECK.due("most claims", submitOnEight(5, 0, 1, 1, Integer.MAX_VALUE), -1);
        CHECK.due("claims all", submitOnEight(5, 0, 1, 1, 11), 0);
    }

    private static void theLongest() {
        for (int program = 15; program <= 17; program++) {
            Rig rig = new Rig(4, 1, 1);
            rig.feed(new int[20]);
            CHECK.due("a program of " + program, rig.x.submit(program, 0, 1, 1, 0), program > 16 ? -1 : 0);
        }
        for (int cards = 39; cards <= 41; cards++) {
            Rig rig = new Rig(4, 1, 1);
            rig.feed(new int[48]);
            CHECK.due(cards + " cards", rig.x.submit(1, cards, 1, 1, 0), cards > 40 ? -1 : 0);
        }
        Rig rig = new Rig(4, 1, 1);
        rig.feed(new int[132]);
        CHECK.due("a program of 129", rig.x.submit(129, 0, 8, 1, 0), -1);
    }

    private static void whatIsBehindTheProgram() {
        Rig rig = new Rig(4, 1, 1);
        rig.feed(11, 12, 13, 14, 15, 16, 17, 18);
        rig.x.submit(3, 2, 2, 9, 0);
        int[] due = {11, 12, 13, 0, 0};
        for (int i = 0; i < due.length; i++) {
            CHECK.due("word " + i, rig.x.word(0, i), due[i]);
        }
        CHECK.due("last word", rig.x.word(0, 31), 0);
        CHECK.due("submitted", rig.registers(0), "1 0 0 0 0 0");
        CHECK.due("submitted is not ready", rig.row() + rig.waits(), "0000007777");
        CHECK.due("submitted is not admitted", rig.x.about(8), 0);
    }

    private static void theNumbers() {
        Rig rig = new Rig(4, 1, 2);
        for (int k = 0; k < 6; k++) {
            CHECK.due("number " + k, rig.load(1, 50, 0, Rig.ints(Rig.op(Rig.SET, k), Rig.END)), k);
        }
        CHECK.due("no number is left", rig.load(1, 50, 0, Rig.ints(9)), -1);
        CHECK.due("tape behind it", rig.x.feed(1, 1, 1, 1), 4);
        rig.x.submit(-1, 0, 1, 1, 0);
        rig.line("A4");
        rig.finish(4);
        rig.line("A1");
        rig.finish(1);
        CHECK.due("over", rig.registers(1), "3 1 2 2 1 0");
        CHECK.due("lowest that is over", rig.load(2, 50, 3, Rig.ints(5, 6, 7)), 1);
        CHECK.due("what was of it is gone", rig.registers(1) + " " + rig.held(1) + " " + rig.moved(1),
                "1 0 0 0 0 0 0 0 0 0 0 0 0");
        CHECK.due("its words are new", rig.x.word(1, 1), 6);
        CHECK.due("its words are new", rig.x.word(1, 16), 0);
        CHECK.due("the other one over", rig.load(1, 50, 0, Rig.ints(8)), 4);
        CHECK.due("no number is left again", rig.load(1, 50, 0, Rig.ints(8)), -1);
    }

    private static void paperAndCancelGoWithTheNumber() {
        Rig rig = new Rig(4, 2, 3);
        rig.load(1, 50, 7, Rig.ints(Rig.op(Rig.GET, 0), Rig.op(Rig.GET, 1), Rig.op(Rig.GET, 2),
                Rig.op(Rig.READ), Rig.op(Rig.PRINT), Rig.op(Rig.ASK)), 77, 78);
        rig.line("A0");
        rig.settle();
        rig.x.done(1);
        rig.settle();
        rig.line("C0");
        rig.finish(0);
        CHECK.due("cancelled", rig.registers(0) + " " + rig.held(0) + " " + rig.moved(0),
                "3 5 5 5 77 0 1 1 1 1 1 0 1");
        CHECK.due("paper", rig.x.paper(0, 0), 77);
        rig.load(1, 50, 0, Rig.ints(1));
        CHECK.due("new", rig.registers(0) + " " + rig.held(0) + " " + rig.moved(0),
                "1 0 0 0 0 0 0 0 0 0 0 0 0");
        CHECK.due("new paper", rig.x.paper(0, 0), 0);
    }

    /** The old job's words, cards and registers must not show through a shorter deck. */
    private static void nothingOfTheOldJobIsLeft() {
        int[] program = new int[48];
        java.util.Arrays.fill(program, 9);
        program[0] = Rig.op(Rig.GET, 0);
        program[1] = Rig.op(Rig.READ);
        program[2] = Rig.op(Rig.LOAD_X, 40);
        program[3] = Rig.END;
        Rig rig = Rig.ran(3, 50, 1, program, 31, 32, 33);
        CHECK.due("the old job", rig.registers(0) + " " + rig.moved(0), "3 1 4 4 31 9 1 0 0 0");
        rig.load(3, 50, 1, Rig.ints(Rig.op(Rig.GET, 0), Rig.op(Rig.READ), Rig.op(Rig.READ)), 41);
        for (int i = 3; i < 48; i++) {
            CHECK.due("word " + i + " behind the new program", rig.x.word(0, i), 0);
        }
        CHECK.due("the new job", rig.registers(0) + " " + rig.moved(0), "1 0 0 0 0 0 0 0 0 0");
        rig.line("A0");
        rig.finish(0);
        CHECK.due("it has one card", rig.registers(0) + " " + rig.moved(0), "3 4 2 2 41 0 1 0 0 0");
    }

    private static void claimsAreBits() {
        for (int claims = 0; claims <= 11; claims++) {
            for (int r = 0; r < 3; r++) {
                int may = r == 2 ? claims / 4 : claims >> r & 1;
                Rig rig = Rig.ran(1, 50, claims, Rig.ints(Rig.op(Rig.GET, r), Rig.op(Rig.GET, r),
                        Rig.op(Rig.GET, r)));
                CHECK.due("claims " + claims + " of " + r, rig.registers(0), "3 3 " + may + " " + may + " 0 0");
            }
        }
    }

    public static void main(String[] args) {
        whatMayBe();
        theLongest();
        whatIsBehindTheProgram();
        theNumbers();
        paperAndCancelGoWithTheNumber();
        nothingOfTheOldJobIsLeft();
        claimsAreBits();
        CHECK.finish();
    }
}
