/** Promise 8: job, with the instructions of PART 2, the resources of PART 4 and the ending of PART 6. */
public final class Promise08Test {
    private static final Check CHECK = new Check();
    private static final int LEAST = Integer.MIN_VALUE;
    private static final int MOST = Integer.MAX_VALUE;

    private static void wrongOnes() {
        Rig rig = new Rig(4, 1, 1);
        rig.load(1, 9, 0, Rig.ints(Rig.END));
        int[][] wrong = {{-1, 0}, {6, 0}, {0, -1}, {0, 13}, {9, 5}, {LEAST, 0}, {MOST, 0}, {0, LEAST}, {0, MOST},
            {5, 13}};
        for (int[] pair : wrong) {
            CHECK.due("job(" + pair[0] + ", " + pair[1] + ")", rig.x.job(pair[0], pair[1]), -1);
        }
        for (int what = 0; what <= 12; what++) {
            CHECK.due("of no job " + what, rig.x.job(5, what), 0);
            CHECK.due("of one that waits for admission " + what, rig.x.job(0, what), what == 0 ? 1 : 0);
        }
    }

    private static void ends(String what, int[] program, String registers) {
        Rig rig = Rig.ran(2, 50, 0, program);
        CHECK.due(what, rig.registers(0), registers);
        CHECK.due(what + ", said", rig.said(), "0=" + registers.charAt(2) + "/");
    }

    /** A = first; A = A kind second; end. */
    private static void computes(int kind, int first, int second, int result) {
        int[] program = {Rig.op(Rig.LOAD, 4), Rig.op(kind, 5), Rig.END, 0, first, second};
        ends(first + " kind " + kind + " " + second, program, "3 1 3 3 " + result + " 0");
    }

    private static void arithmetic() {
        computes(Rig.ADD, 5, 7, 12);
        computes(Rig.ADD, MOST, 1, LEAST);
        computes(Rig.ADD, LEAST, -1, MOST);
        computes(Rig.SUB, 5, 7, -2);
        computes(Rig.SUB, LEAST, 1, MOST);
        computes(Rig.MUL, -5, 7, -35);
        computes(Rig.MUL, 65536, 65536, 0);
        computes(Rig.MUL, MOST, 2, -2);
        computes(Rig.DIV, 7, 2, 3);
        computes(Rig.DIV, -7, 2, -3);
        computes(Rig.DIV, 7, -2, -3);
        computes(Rig.DIV, LEAST, -1, LEAST);
        computes(Rig.DIV, LEAST, 1, LEAST);
        computes(Rig.DIV, 0, 9, 0);
        ends("division by 0", Rig.ints(Rig.op(Rig.LOAD, 4), Rig.op(Rig.DIV, 5), 0, 0, 8, 0), "3 4 1 1 8 0");
    }

    private static void moves() {
        ends("A = a", Rig.ints(Rig.op(Rig.SET, 255), Rig.END), "3 1 2 2 255 0");
        ends("[a] = A", Rig.ints(Rig.op(Rig.SET, 9), Rig.op(Rig.STORE, 31), Rig.op(Rig.SET, 0), Rig.op(Rig.LOAD, 31), 0),
                "3 1 5 5 9 0");
        ends("X = [a], A = X", Rig.ints(Rig.op(Rig.LOAD_X, 3), Rig.op(Rig.SET_X, 77), Rig.END, -12), "3 1 3 3 -12 -12");
        ends("A = [a + X]", Rig.ints(Rig.op(Rig.LOAD_X, 3), Rig.op(Rig.LOAD_AT, 6), Rig.END, -2, 55), "3 1 3 3 55 -2");
        ends("[a + X] = A", Rig.ints(Rig.op(Rig.LOAD_X, 6), Rig.op(Rig.SET, 8), Rig.op(Rig.STORE_AT, 10), Rig.op(Rig.SET, 1),
                Rig.op(Rig.LOAD, 30), Rig.END, 20), "3 1 6 6 8 20");
        ends("a program that writes its next word", Rig.ints(Rig.op(Rig.LOAD, 4), Rig.op(Rig.STORE, 2), Rig.END,
                Rig.END, Rig.op(Rig.SET, 6)), "3 1 4 4 6 0");
    }

    private static void jumps() {
        ends("PLACE = a", Rig.ints(Rig.op(Rig.JUMP, 3), 0, 0, Rig.op(Rig.SET, 1), Rig.END), "3 1 3 5 1 0");
        for (int a = -1; a <= 1; a++) {
            int[] below = {Rig.op(Rig.LOAD, 5), Rig.op(Rig.JUMP_NEG, 4), Rig.END, 0, Rig.END, a};
            ends("below 0: " + a, below, "3 1 3 " + (a < 0 ? 5 : 3) + " " + a + " 0");
            int[] zero = {Rig.op(Rig.LOAD, 5), Rig.op(Rig.JUMP_ZERO, 4), Rig.END, 0, Rig.END, a};
            ends("0: " + a, zero, "3 1 3 " + (a == 0 ? 5 : 3) + " " + a + " 0");
        }
        ends("out of the segments", Rig.ints(Rig.op(Rig.JUMP, 32)), "3 4 1 32 0 0");
        ends("far out of the segments", Rig.ints(Rig.op(Rig.JUMP, 255)), "3 4 1 255 0 0");
        ends("to the last word", Rig.ints(Rig.op(Rig.JUMP, 31)), "3 1 2 32 0 0");
        int[] full = new int[32];
        java.util.Arrays.fill(full, Rig.op(Rig.SET, 3));
        ends("beyond the last word", full, "3 4 32 32 3 0");
    }

    private static void traps() {
        int[] wrong = {-1, -256, LEAST, MOST, Rig.op(20), Rig.op(20, 5), Rig.op(99), Rig.op(Rig.LOAD, 32),
            Rig.op(Rig.STORE, 255), Rig.op(Rig.ADD, 32), Rig.op(Rig.SUB, 32), Rig.op(Rig.MUL, 32), Rig.op(Rig.DIV, 32),
            Rig.op(Rig.LOAD_X, 32), Rig.op(Rig.LOAD_AT, 32), Rig.op(Rig.STORE_AT, 32), Rig.op(Rig.READ),
            Rig.op(Rig.PRINT), Rig.op(Rig.GET, 3), Rig.op(Rig.GET, 255), Rig.op(Rig.GIVE, 0), Rig.op(Rig.GIVE, 1),
            Rig.op(Rig.GIVE, 2), Rig.op(Rig.GIVE, 3)};
        for (int word : wrong) {
            ends("the word " + word, Rig.ints(Rig.op(Rig.SET, 6), word), "3 4 1 1 6 0");
        }
        for (int x : new int[] {-31, 1, LEAST, MOST}) {
            ends("[30 + X], X " + x, Rig.ints(Rig.op(Rig.LOAD_X, 3), Rig.op(Rig.LOAD_AT, x == 1 ? 31 : 30), 0, x),
                    "3 4 1 1 0 " + x);
        }
        ends("[30 + X], X -30", Rig.ints(Rig.op(Rig.LOAD_X, 3), Rig.op(Rig.LOAD_AT, 30), 0, -30),
                "3 1 3 3 " + Rig.op(Rig.LOAD_X, 3) + " -30");
    }

    private static void limits() {
        int[] loop = {Rig.op(Rig.JUMP, 0)};
        CHECK.due("limit 1", Rig.ran(1, 1, 0, loop).registers(0), "3 2 1 0 0 0");
        CHECK.due("limit 7", Rig.ran(1, 7, 0, loop).registers(0), "3 2 7 0 0 0");
        CHECK.due("the end in time", Rig.ran(1, 2, 0, Rig.ints(Rig.op(Rig.SET, 1), 0)).registers(0), "3 1 2 2 1 0");
        CHECK.due("the end too late", Rig.ran(1, 1, 0, Rig.ints(Rig.op(Rig.SET, 1), 0)).registers(0), "3 2 1 1 1 0");
        Rig rig = new Rig(4, 1, 9);
        rig.load(1, 5000, 0, loop);
        rig.line("A0");
        rig.x.tick(3);
        rig.x.done(0);
        for (int i = 0; i < 25; i++) {
            rig.x.tick(200);
        }
        CHECK.due("limit 5000, nearly", rig.registers(0), "2 0 4999 0 0 0");
        rig.x.tick(1);
        CHECK.due("limit 5000", rig.registers(0), "2 0 5000 0 0 0");
        rig.x.tick(1);
        CHECK.due("it begins to end", rig.registers(0), "2 0 5000 0 0 0");
        rig.x.tick(1);
        CHECK.due("over", rig.registers(0), "3 2 5000 0 0 0");
    }

    /** What begins to end has a step of its own for its ending, and no outcome until then. */
    private static void theEndingIsAStepOfItsOwn() {
        Rig rig = new Rig(4, 1, 9);
        rig.load(1, 9, 0, Rig.ints(-5));
        rig.line("A0");
        rig.x.tick(3);
        rig.x.done(0);
        rig.x.tick(2);
        CHECK.due("trapped, not over", rig.registers(0) + " " + rig.said() + rig.row(), "2 0 0 0 0 0 0");
        CHECK.due("its frame stays pinned", rig.frame(0), "0.0p@5");
        rig.x.tick(1);
        CHECK.due("over", rig.registers(0) + " " + rig.said() + rig.row(), "3 4 0 0 0 0 0=4/");
        CHECK.due("its frame is free", rig.frame(0), "free");
    }

    private static void claims() {
        CHECK.due("no claim", Rig.ran(1, 9, 0, Rig.ints(Rig.op(Rig.GET, 0))).registers(0), "3 3 0 0 0 0");
        Rig rig = Rig.ran(1, 9, 11, Rig.ints(Rig.op(Rig.GET, 0), Rig.op(Rig.GET, 1), Rig.op(Rig.GET, 2),
                Rig.op(Rig.GET, 2), Rig.op(Rig.GET, 2)));
        CHECK.due("a page too many", rig.registers(0), "3 3 4 4 0 0");
        CHECK.due("what it held stays shown", rig.held(0), "1 1 2");
        CHECK.due("but is free", rig.free(), "1 1 2");
        Rig again = Rig.ran(1, 20, 11, Rig.ints(Rig.op(Rig.GET, 0), Rig.op(Rig.GIVE, 0), Rig.op(Rig.GET, 0),
                Rig.op(Rig.GET, 2), Rig.op(Rig.GET, 2), Rig.op(Rig.GIVE, 2), Rig.op(Rig.GIVE, 0), Rig.END));
        CHECK.due("given and got again", again.registers(0) + " " + again.held(0), "3 1 8 8 0 0 0 0 1");
    }

    /** Two pages, two jobs that claim both: the second one's first page would not be safe. */
    private static void safety() {
        Rig rig = new Rig(4, 2, 9);
        rig.load(1, 50, 8, Rig.ints(Rig.op(Rig.GET, 2), Rig.op(Rig.ASK), Rig.op(Rig.GET, 2), Rig.op(Rig.GIVE, 2),
                Rig.op(Rig.ASK)));
        rig.load(1, 50, 8, Rig.ints(Rig.op(Rig.GET, 2), Rig.op(Rig.GET, 2), Rig.END));
        rig.line("A0");
        rig.settle();
        rig.line("A1");
        rig.settle();
        CHECK.due("a page is free but not safe", rig.waits() + " " + rig.free(), "5600007777 1 1 1");
        rig.line("R0 1");
        rig.settle();
        CHECK.due("nor when 0 has given the second one back", rig.waits() + " " + rig.free(), "5600007777 1 1 1");
        rig.line("R0 1");
        rig.x.tick(3);
        CHECK.due("0 is over", rig.held(0) + " " + rig.x.job(0, 1), "0 0 1 1");
        CHECK.due("1 has one", rig.held(1), "0 0 1");
        rig.finish(1);
        CHECK.due("1 is over", rig.held(1) + " " + rig.free() + " " + rig.x.job(1, 1), "0 0 2 1 1 2 1");
    }

    /** A cycle over different resources: each could have the other's. */
    private static void safetyOfDifferentOnes() {
        Rig rig = new Rig(4, 2, 9);
        rig.load(1, 50, 3, Rig.ints(Rig.op(Rig.GET, 0), Rig.op(Rig.ASK), Rig.op(Rig.GET, 1), Rig.END));
        rig.load(1, 50, 3, Rig.ints(Rig.op(Rig.GET, 1), Rig.op(Rig.GET, 0), Rig.END));
        rig.line("A0");
        rig.settle();
        rig.line("A1");
        rig.settle();
        CHECK.due("the printer is free but not safe", rig.waits() + " " + rig.free(), "5600007777 0 1 2");
        rig.line("R0 1");
        rig.finish(1);
        CHECK.due("both end", rig.x.job(0, 1) + " " + rig.x.job(1, 1) + " " + rig.said(), "1 1 0?/0=1/1=1/");

        Rig alone = new Rig(4, 2, 9);
        alone.load(1, 50, 1, Rig.ints(Rig.op(Rig.GET, 0), Rig.op(Rig.ASK)));
        alone.load(1, 50, 3, Rig.ints(Rig.op(Rig.GET, 1), Rig.op(Rig.ASK)));
        alone.line("A0");
        alone.line("A1");
        alone.settle();
        CHECK.due("safe, as 0 claims no printer", alone.waits() + " " + alone.free(), "5500007777 0 0 2");
    }

    /** The row is gone through once from its beginning; one behind may have what the first can't. */
    private static void theRowOfGets() {
        Rig rig = new Rig(8, 1, 9);
        rig.load(1, 50, 6, Rig.ints(Rig.op(Rig.GET, 1), Rig.op(Rig.GET, 2), Rig.op(Rig.ASK), Rig.op(Rig.GIVE, 2),
                Rig.op(Rig.ASK), Rig.op(Rig.GIVE, 1), Rig.op(Rig.ASK)));
        rig.load(1, 50, 2, Rig.ints(Rig.op(Rig.GET, 1), Rig.op(Rig.ASK)));
        rig.load(1, 50, 4, Rig.ints(Rig.op(Rig.GET, 2), Rig.op(Rig.ASK)));
        rig.load(1, 50, 4, Rig.ints(Rig.op(Rig.GET, 2), Rig.op(Rig.ASK)));
        for (int k = 0; k < 4; k++) {
            rig.line("A" + k);
            rig.settle();
        }
        CHECK.due("three wait", rig.waits(), "5666007777");
        rig.line("R0 1");
        rig.x.tick(2);
        CHECK.due("2 has the page, 1 and 3 wait on", rig.row() + " " + rig.waits(), "02 0606007777");
        CHECK.due("held", rig.held(0) + "," + rig.held(1) + "," + rig.held(2) + "," + rig.held(3),
                "0 1 0,0 0 0,0 0 1,0 0 0");
        rig.settle();
        rig.line("R0 1");
        rig.settle();
        CHECK.due("1 has the printer", rig.waits() + " " + rig.held(1), "5556007777 0 1 0");
        rig.line("R2 1");
        rig.settle();
        CHECK.due("3 has the page when 2 is over", rig.waits() + " " + rig.held(3) + " " + rig.held(2),
                "5505007777 0 0 1 0 0 1");
    }

    private static void cardsAndLines() {
        Rig rig = Rig.ran(2, 50, 7, Rig.ints(Rig.op(Rig.GET, 0), Rig.op(Rig.GET, 1), Rig.op(Rig.GET, 2),
                Rig.op(Rig.READ), Rig.op(Rig.PRINT), Rig.op(Rig.JUMP, 3)), 10, 20, 30, 40, 50);
        CHECK.due("no card is left", rig.registers(0), "3 4 18 3 50 0");
        CHECK.due("moved", rig.moved(0) + ", " + rig.paper(0), "5 5 0 0, 10 20 30 40 50");
        CHECK.due("held", rig.held(0) + " " + rig.free(), "1 1 1 1 1 2");
        CHECK.due("printer without a page", Rig.ran(1, 9, 2, Rig.ints(Rig.op(Rig.GET, 1), Rig.op(Rig.PRINT)))
                .registers(0), "3 4 1 1 0 0");
        CHECK.due("a page without printer", Rig.ran(1, 9, 4, Rig.ints(Rig.op(Rig.GET, 2), Rig.op(Rig.PRINT)))
                .registers(0), "3 4 1 1 0 0");
        CHECK.due("reader without a card", Rig.ran(1, 9, 1, Rig.ints(Rig.op(Rig.GET, 0), Rig.op(Rig.READ)))
                .registers(0), "3 4 1 1 0 0");
    }

    /** An end with lines left waits for them. */
    private static void endingWithLines() {
        Rig rig = new Rig(4, 1, 9);
        rig.load(1, 50, 6, Rig.ints(Rig.op(Rig.GET, 1), Rig.op(Rig.GET, 2), Rig.op(Rig.PRINT), Rig.op(Rig.PRINT), 0));
        rig.line("A0");
        rig.settle();
        CHECK.due("it waits", rig.waits() + " " + rig.registers(0), "4000007787 2 0 5 5 0 0");
        rig.line("C0");
        rig.x.tick(1);
        CHECK.due("told to cancel", rig.waits() + " " + rig.x.job(0, 12) + rig.said(), "4000007787 1");
        rig.x.done(2);
        rig.x.tick(2);
        CHECK.due("one more", rig.waits(), "4000007787");
        rig.x.done(2);
        rig.x.tick(1);
        CHECK.due("woken", rig.row() + " " + rig.free(), "0 1 0 0");
        rig.x.tick(1);
        CHECK.due("over as it began to end", rig.registers(0) + " " + rig.moved(0) + " " + rig.said() + rig.free(),
                "3 1 5 5 0 0 0 2 0 1 0=1/1 1 1");
    }

    public static void main(String[] args) {
        wrongOnes();
        arithmetic();
        moves();
        jumps();
        traps();
        limits();
        theEndingIsAStepOfItsOwn();
        claims();
        safety();
        safetyOfDifferentOnes();
        theRowOfGets();
        cardsAndLines();
        endingWithLines();
        CHECK.finish();
    }
}
