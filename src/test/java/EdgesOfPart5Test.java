import java.util.Arrays;

/** The boundary cases of PART 5: cards, lines, and what may be typed at the console. */
public final class EdgesOfPart5Test {
    private static final Check CHECK = new Check();
    private static final int ASK = Rig.op(Rig.ASK);
    private static final int READ = Rig.op(Rig.READ);
    private static final int PRINT = Rig.op(Rig.PRINT);

    private static int get(int a) {
        return Rig.op(Rig.GET, a);
    }

    private static int give(int a) {
        return Rig.op(Rig.GIVE, a);
    }

    /** "READ: TRAP without the reader, or when no card is left." */
    private static void cards() {
        CHECK.due("no reader", Rig.ran(1, 50, 7, Rig.ints(READ), 5).registers(0), "3 4 0 0 0 0");
        CHECK.due("all but the reader", Rig.ran(1, 50, 7, Rig.ints(get(1), get(2), READ), 5).registers(0),
                "3 4 2 2 0 0");
        CHECK.due("a reader given back", Rig.ran(1, 50, 7, Rig.ints(get(0), READ, give(0), READ), 5, 6).registers(0),
                "3 4 3 3 5 0");
        for (int count : new int[] {0, 1, 2, 39, 40}) {
            int[] some = new int[count];
            Arrays.fill(some, 9);
            Rig rig = new Rig(4, 1, 9);
            rig.load(1, 500, 1, Rig.ints(get(0), READ, Rig.op(Rig.JUMP, 1)), some);
            rig.line("A0");
            rig.settle();
            for (int i = 0; i < count; i++) {
                CHECK.due("it waits for a card", rig.process(0) + " " + rig.x.job(0, 9), "-1 2 " + i);
                CHECK.due("the reader", rig.x.done(1), true);
                rig.settle();
            }
            CHECK.due(count + " cards, then a TRAP", rig.x.job(0, 0) + " " + rig.x.job(0, 1) + " " + rig.x.job(0, 9)
                    + " " + rig.x.job(0, 2), "3 4 " + count + " " + (1 + 2 * count));
            CHECK.due("the reader rests", rig.x.done(1), false);
        }
    }

    /** "PRINT: TRAP without the printer or a page." */
    private static void printerAndPage() {
        String[] due = {"3 4 0 0 0 0", "3 4 1 1 0 0", "3 4 1 1 0 0"};
        int[][] programs = {{PRINT}, {get(1), PRINT}, {get(2), PRINT}};
        for (int i = 0; i < 3; i++) {
            Rig rig = Rig.ran(1, 50, 7, programs[i]);
            CHECK.due("program " + i, rig.registers(0) + " " + rig.moved(0), due[i] + " 0 0 0 0");
        }
        for (int first = 1; first <= 2; first++) {
            Rig rig = Rig.ran(1, 50, 7, Rig.ints(get(first), get(3 - first), PRINT, give(3 - first), PRINT));
            CHECK.due("both, and then one given back", rig.registers(0) + " " + rig.moved(0), "3 4 4 4 0 0 0 1 0 0");
        }
    }

    /** "if they are 4 for each page it holds it waits (and tries anew)". */
    private static void linesForEachPage() {
        for (int pages = 1; pages <= 6; pages++) {
            int[] program = new int[pages + 4];
            Arrays.fill(program, get(2));
            program[0] = get(1);
            program[pages + 1] = PRINT;
            program[pages + 2] = Rig.op(Rig.ADD, pages + 3);
            program[pages + 3] = Rig.op(Rig.JUMP, pages + 1);
            Rig rig = new Rig(4, 6, 9);
            rig.load(1, 500, 26, program);
            rig.line("A0");
            rig.x.tick(3);
            rig.x.done(0);
            rig.x.tick(1);
            int most = 0;
            for (int i = 0; i < 300 && rig.x.process(0, 1) != 3; i++) {
                rig.x.tick(1);
                most = Math.max(most, rig.x.job(0, 11));
            }
            CHECK.due(pages + " pages", rig.x.process(0, 1) + " " + rig.x.job(0, 11) + " " + most,
                    "3 " + 4 * pages + " " + 4 * pages);
            int steps = rig.x.job(0, 2);
            rig.settle();
            rig.x.tick(20);
            CHECK.due("it waits on", rig.x.process(0, 1) + " " + rig.x.job(0, 2), "3 " + steps);
            rig.x.done(2);
            rig.x.tick(1);
            CHECK.due("room for one", rig.x.process(0, 1) + " " + rig.x.job(0, 11) + " " + rig.x.job(0, 2),
                    "0 " + (4 * pages - 1) + " " + steps);
            rig.settle();
            CHECK.due("it has come", rig.x.process(0, 1) + " " + rig.x.job(0, 11) + " " + rig.x.job(0, 2),
                    "3 " + 4 * pages + " " + (steps + 3));
        }
    }

    /** "of a printer or a page: while its LINES are not empty it waits"; a reader may be given at any time. */
    private static void givenWithLines() {
        for (int a = 0; a <= 2; a++) {
            for (int lines = 0; lines <= 2; lines++) {
                int[] program = new int[lines + 5];
                Arrays.fill(program, PRINT);
                program[0] = get(0);
                program[1] = get(1);
                program[2] = get(2);
                program[lines + 3] = give(a);
                program[lines + 4] = ASK;
                Rig rig = new Rig(4, 1, 9);
                rig.load(1, 50, 7, program);
                rig.line("A0");
                rig.settle();
                for (int left = lines; left > 0; left--) {
                    CHECK.due("GIVE " + a + " with " + left + " lines", rig.x.process(0, 1), a == 0 ? 5 : 4);
                    CHECK.due("it is held", rig.x.job(0, 6 + a), a == 0 ? 0 : 1);
                    rig.x.done(2);
                    rig.settle();
                }
                CHECK.due("GIVE " + a + " with none", rig.x.process(0, 1) + " " + rig.x.job(0, 6 + a), "5 0");
            }
        }
    }

    /** "twice as many jobs as are admitted (not over) then are not more than frames". */
    private static void howManyAreAdmitted() {
        int[] due = {0, 0, 0, 0, 2, 2, 3, 3, 4, 4, 5, 5, 6};
        for (int frames = 4; frames <= 12; frames++) {
            Rig rig = new Rig(frames, 1, 9);
            for (int k = 0; k < 6; k++) {
                rig.load(1, 9, 0, Rig.ints(ASK, Rig.END));
            }
            for (int k = 0; k < 6; k++) {
                rig.line("A" + k);
                rig.settle();
                boolean may = k < due[frames];
                CHECK.due(frames + " frames, A" + k, rig.x.job(k, 0), may ? 2 : 1);
                CHECK.due(frames + " frames, admitted", rig.x.about(8), Math.min(k + 1, due[frames]));
                CHECK.due(frames + " frames, said", rig.said().endsWith(may ? k + "?/" : "/?/"), true);
            }
        }
    }

    /** One that is ending still counts, one that is over does not. */
    private static void roomForOneMore() {
        Rig rig = new Rig(4, 1, 1);
        for (int k = 0; k < 3; k++) {
            rig.load(1, 9, 0, Rig.ints(ASK, Rig.END));
        }
        rig.line("A0");
        rig.settle();
        rig.line("A1");
        rig.settle();
        rig.line("C0");
        rig.line("A2");
        rig.x.tick(1);
        CHECK.due("told to cancel", rig.row() + " " + rig.x.about(8), "09 2");
        rig.x.tick(2);
        CHECK.due("one that begins to end counts", rig.said() + rig.x.job(2, 0), "0?/1?/?/1");
        rig.x.tick(1);
        CHECK.due("over", rig.x.job(0, 0) + " " + rig.x.about(8), "3 1");
        rig.line("A2");
        rig.x.tick(1);
        CHECK.due("one that is over does not", rig.x.job(2, 0) + " " + rig.x.about(8), "2 2");
    }

    private static Rig asking() {
        Rig rig = new Rig(6, 1, 9);
        rig.load(1, 9, 0, Rig.ints(Rig.op(Rig.SET, 200), ASK, ASK));
        rig.load(1, 9, 1, Rig.ints(get(0), ASK));
        rig.load(1, 9, 1, Rig.ints(get(0), ASK));
        rig.load(1, 9, 0, Rig.ints(Rig.END));
        rig.load(1, 9, 0, Rig.ints(Rig.END));
        for (String line : new String[] {"A4", "A0", "A1", "A2"}) {
            rig.line(line);
            rig.settle();
        }
        CHECK.due("0 and 1 ask, 2 waits in the row of GETS, 3 for admission, 4 is over, 5 is no job",
                rig.waits() + " " + rig.x.job(3, 0) + rig.x.job(4, 0) + rig.x.job(5, 0), "5560007777 130");
        return rig;
    }

    private static void replies(String text, boolean right, int number) {
        Rig rig = asking();
        int bytes = rig.x.about(7);
        rig.line(text);
        rig.x.tick(1);
        CHECK.due("'" + text + "'", rig.registers(0), right ? "2 0 2 2 " + number + " 0" : "2 0 1 1 200 0");
        CHECK.due("'" + text + "' wakes", rig.row(), right ? "0" : "");
        CHECK.due("'" + text + "' is said to be wrong", rig.x.about(7) - bytes, right ? 0 : 2);
    }

    /** "perhaps "-", 1 to 9 digits". */
    private static void numbers() {
        StringBuilder digits = new StringBuilder();
        int number = 0;
        for (int count = 0; count <= 11; count++) {
            replies("R0 " + digits, count >= 1 && count <= 9, number);
            replies("R0 -" + digits, count >= 1 && count <= 9, -number);
            digits.append((count + 1) % 10);
            number = count < 9 ? 10 * number + count + 1 : 0;
        }
        replies("R0 999999999", true, 999999999);
        replies("R0 -999999999", true, -999999999);
        replies("R0 1000000000", false, 0);
        replies("R0 0000000001", false, 0);
        replies("R0 000000001", true, 1);
        replies("R0 -000000000", true, 0);
        for (String text : new String[] {"R0 /", "R0 :", "R0 1/", "R0 1:", "R0 --1", "R0 1-", "R0 -1-", "R0 +1",
            "R0 1 ", "R0  1", "R0 - 1", "R0 1 1", "R0_1", "R0-1", "R01", "R0 a", "R0 1a", "r0 1", "R 0 1", " R0 1",
            "R0", "R", "R00 1", "R/ 1", "R: 1", "Q0 1", "S0 1"}) {
            replies(text, false, 0);
        }
    }

    /** The line says "?" and nothing else is changed, or it is obeyed and nothing is said. */
    private static void says(String text, boolean obeyed) {
        Rig rig = asking();
        String before = rig.whole().replaceAll("\\|[^|]*\\|[^|]*$", "");
        int bytes = rig.x.about(7);
        rig.line(text);
        rig.x.tick(1);
        CHECK.due("'" + text + "', bytes said", rig.x.about(7) - bytes, obeyed ? 0 : 2);
        if (!obeyed) {
            CHECK.due("'" + text + "' changes nothing", rig.whole().replaceAll("\\|[^|]*\\|[^|]*$", ""), before);
            CHECK.due("'" + text + "' said", rig.x.octet(bytes) + " " + rig.x.octet(bytes + 1), "63 10");
        }
    }

    /** "Any other line, also one whose job is not as told: the console says "?", 10." */
    private static void otherLines() {
        for (String text : new String[] {"R0 1", "R1 1", "C0", "C1", "C2"}) {
            says(text, true);
        }
        for (String text : new String[] {"R2 1", "R3 1", "R4 1", "R5 1", "R6 1", "R9 1", "C3", "C4", "C5", "C6", "C9",
            "A0", "A1", "A2", "A4", "A5", "A6", "A9"}) {
            says(text, false);
        }
        for (String text : new String[] {"", " ", "?", "0", "A", "C", "AA", "A/", "A:", "A-", "A 3", "A3 ", " A3",
            "A33", "A3A3", "a3", "C0 ", " C0", "C00", "c0", "C/", "C:", "C", "C 0", "B3", "D0", "@3", "[0", "0C", "3A",
            "12345678901234567890", "A3                  ", "C0                  "}) {
            says(text, false);
        }
        // All three places are taken, so a job that waits for admission is not as told either.
        says("A3", false);
    }

    /** With room for it the same line is obeyed. */
    private static void admitted() {
        Rig rig = new Rig(4, 1, 9);
        for (int k = 0; k < 6; k++) {
            rig.load(1, 9, 0, Rig.ints(Rig.END));
        }
        for (int k : new int[] {5, 0}) {
            rig.line("A" + k);
            rig.x.tick(4);
            CHECK.due("A" + k, rig.x.job(k, 0) + " " + rig.x.about(7), "2 0");
        }
        rig.line("C5");
        rig.x.tick(4);
        CHECK.due("C5", rig.x.job(5, 12) + " " + rig.x.about(7), "1 0");
    }

    /** A reply comes only to one that waits for it: told to cancel, it does not any more. */
    private static void aReplyTooLate() {
        Rig rig = asking();
        int bytes = rig.x.about(7);
        rig.line("C0");
        rig.line("R0 7");
        rig.x.tick(2);
        CHECK.due("C0, then R0", rig.all(0) + ", " + (rig.x.about(7) - bytes), "2 0 1 1 200 0 0 0 0 0 0 0 1, 2");
        rig = asking();
        bytes = rig.x.about(7);
        rig.line("R0 7");
        rig.line("R0 8");
        rig.x.tick(2);
        CHECK.due("R0, then R0", rig.all(0) + ", " + (rig.x.about(7) - bytes), "2 0 2 2 7 0 0 0 0 0 0 0 0, 2");
    }

    /** "in the row of GETS (it leaves it)": what it waited for goes to the next, or stays free. */
    private static void cancelledInTheRow() {
        for (int more = 0; more <= 1; more++) {
            Rig rig = new Rig(6, 1, 9);
            for (int k = 0; k < 2 + more; k++) {
                rig.load(1, 9, 1, Rig.ints(get(0), ASK));
                rig.line("A" + k);
                rig.settle();
            }
            rig.line("C1");
            rig.line("C0");
            rig.x.tick(2);
            CHECK.due("both are woken", rig.row() + " " + rig.x.process(1, 1), "10 0");
            rig.x.tick(4);
            CHECK.due("both are over", rig.registers(0) + ", " + rig.registers(1), "3 5 1 1 0 0, 3 5 0 0 0 0");
            CHECK.due("the reader", rig.free() + ", " + rig.held(1) + ", " + rig.held(2),
                    more == 0 ? "1 1 1, 0 0 0, 0 0 0" : "0 1 1, 0 0 0, 1 0 0");
            CHECK.due("the row", rig.row(), more == 0 ? "" : "2");
        }
    }

    /** The printer prints for the one that holds it, whatever its number. */
    private static void thePaperOfTheHolder() {
        for (int holder = 0; holder < 3; holder++) {
            Rig rig = new Rig(6, 1, 9);
            for (int k = 0; k < 3; k++) {
                rig.load(1, 50, 6, k == holder ? Rig.ints(get(1), get(2), Rig.op(Rig.SET, 44), PRINT, ASK)
                        : Rig.ints(ASK));
                rig.line("A" + k);
            }
            rig.settle();
            rig.x.done(2);
            rig.settle();
            for (int k = 0; k < 3; k++) {
                CHECK.due("job " + holder + " prints, paper of " + k, rig.paper(k), k == holder ? "44" : "");
            }
        }
    }

    /** "ASK: the console says "k?", 10 (k the job's digit)". */
    private static void whoAsks() {
        Rig rig = new Rig(12, 1, 9);
        for (int k = 0; k < 6; k++) {
            rig.load(1, 9, 0, Rig.ints(ASK));
            rig.line("A" + k);
            rig.settle();
        }
        CHECK.due("said", rig.said(), "0?/1?/2?/3?/4?/5?/");
    }

    public static void main(String[] args) {
        cards();
        printerAndPage();
        linesForEachPage();
        givenWithLines();
        howManyAreAdmitted();
        roomForOneMore();
        numbers();
        otherLines();
        admitted();
        aReplyTooLate();
        cancelledInTheRow();
        thePaperOfTheHolder();
        whoAsks();
        CHECK.finish();
    }
}
