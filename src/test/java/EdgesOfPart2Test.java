import java.util.Arrays;

/** The boundary cases of PART 2: words, addresses, arithmetic and the limit. */
public final class EdgesOfPart2Test {
    private static final Check CHECK = new Check();
    private static final int LEAST = Integer.MIN_VALUE;
    private static final int MOST = Integer.MAX_VALUE;
    private static final int[] WITH_OPERAND = {Rig.LOAD, Rig.STORE, Rig.ADD, Rig.SUB, Rig.MUL, Rig.DIV, Rig.LOAD_X,
        Rig.LOAD_AT, Rig.STORE_AT};

    private static void ends(String what, int segments, int[] program, String registers) {
        CHECK.due(what, Rig.ran(segments, 5000, 0, program).registers(0), registers);
    }

    /** Runs with quick devices and an operator who answers whatever is asked. */
    private static Rig answered(int claims, int[] program, int... cards) {
        Rig rig = new Rig(4, 2, 3);
        rig.load(2, 100, claims, program, cards);
        rig.line("A0");
        for (int i = 0; i < 60 && rig.x.job(0, 0) != 3; i++) {
            rig.x.tick(5);
            for (int device = 0; device <= 2; device++) {
                rig.x.done(device);
            }
            if (rig.x.process(0, 1) == 5) {
                rig.line("R0 1");
            }
        }
        return rig;
    }

    /** "below 0, or a kind that is not told: TRAP". */
    private static void kinds() {
        int[] all = {Rig.op(Rig.GET, 0), Rig.op(Rig.GET, 1), Rig.op(Rig.GET, 2), 0, Rig.END};
        for (int kind = 0; kind <= 19; kind++) {
            int[] program = Arrays.copyOf(all, 10);
            int a = kind == Rig.GET || kind == Rig.GIVE ? 2 : 9;
            program[3] = Rig.op(kind, a);
            program[9] = kind == Rig.JUMP || kind == Rig.JUMP_ZERO || kind == Rig.LOAD_X ? 0 : 1;
            CHECK.due("kind " + kind, answered(11, program, 5).x.job(0, 1), 1);
        }
        int[] none = {Rig.op(20), Rig.op(20, 255), Rig.op(21), Rig.op(255), Rig.op(256), MOST, -1, -255, -256, -257,
            Rig.op(-1, 5), LEAST, LEAST + 1};
        for (int word : none) {
            int[] program = Arrays.copyOf(all, 10);
            program[3] = word;
            CHECK.due("the word " + word, answered(11, program, 5).registers(0), "3 4 3 3 0 0");
        }
        ends("the word 0", 1, Rig.ints(0), "3 1 1 1 0 0");
        ends("the word 255", 1, Rig.ints(255), "3 1 1 1 0 0");
        ends("the word -1", 1, Rig.ints(-1), "3 4 0 0 0 0");
        ends("the word 5119", 1, Rig.ints(Rig.op(Rig.SET, 8), 5119), "3 1 3 3 0 0");
        ends("the word 5120", 1, Rig.ints(Rig.op(Rig.SET, 8), 5120), "3 4 1 1 8 0");
        ends("its address is the word % 256", 1, Rig.ints(Rig.op(Rig.SET, 255), Rig.END), "3 1 2 2 255 0");
        ends("its address is the word % 256", 1, Rig.ints(Rig.op(Rig.SET, 0), Rig.END), "3 1 2 2 0 0");
    }

    /** "PLACE .. in the job's segments, or TRAP". */
    private static void places() {
        for (int segments = 1; segments <= 8; segments++) {
            int last = 16 * segments - 1;
            ends("PLACE " + last, segments, Rig.ints(Rig.op(Rig.JUMP, last)), "3 1 2 " + (last + 1) + " 0 0");
            ends("PLACE " + (last + 1), segments, Rig.ints(Rig.op(Rig.JUMP, last + 1)), "3 4 1 " + (last + 1) + " 0 0");
            int[] full = new int[last + 1];
            Arrays.fill(full, Rig.op(Rig.SET, 6));
            ends("going on beyond " + last, segments, full, "3 4 " + (last + 1) + " " + (last + 1) + " 6 0");
            full[last] = Rig.op(Rig.JUMP, 255);
            ends("PLACE 255", segments, full, "3 4 " + (last + 1) + " 255 6 0");
        }
        int[] notTaken = {Rig.op(Rig.SET, 1), Rig.op(Rig.JUMP_NEG, 255), Rig.op(Rig.JUMP_ZERO, 16), Rig.END};
        ends("a jump that is not taken may be to anywhere", 1, notTaken, "3 1 4 4 1 0");
        ends("taken, it is done, and the next step traps", 1, Rig.ints(Rig.op(Rig.JUMP_ZERO, 16)), "3 4 1 16 0 0");
    }

    private static boolean indexed(int kind) {
        return kind == Rig.LOAD_AT || kind == Rig.STORE_AT;
    }

    /** "the address of what stands in [ ] below .. in the job's segments, or TRAP". */
    private static void addresses() {
        for (int kind : WITH_OPERAND) {
            for (int segments : new int[] {1, 2, 3, 8}) {
                int last = 16 * segments - 1;
                int[] program = new int[last + 1];
                program[0] = Rig.op(Rig.SET, 7);
                program[last] = 1;
                program[1] = Rig.op(kind, last);
                Rig rig = Rig.ran(segments, 50, 0, program);
                CHECK.due("kind " + kind + " at " + last, rig.x.job(0, 1) + " " + rig.x.job(0, 2), "1 3");
                for (int address : new int[] {last + 1, 255}) {
                    program[1] = Rig.op(kind, address);
                    rig = Rig.ran(segments, 50, 0, program);
                    CHECK.due("kind " + kind + " at " + address, rig.registers(0), "3 4 1 1 7 0");
                    CHECK.due("no segment is wanted for it", rig.x.about(9), 1);
                }
            }
        }
    }

    /** A job that sets X and does one instruction of this kind, in two segments. */
    private static String atX(int kind, int a, int x) {
        int[] program = new int[32];
        program[0] = Rig.op(Rig.LOAD_X, 4);
        program[1] = Rig.op(Rig.SET, 9);
        program[2] = Rig.op(kind, a);
        program[4] = x;
        return Rig.ran(2, 50, 0, program).registers(0);
    }

    /** The same with X: the sum counts, below as above. */
    private static void addressesWithX() {
        for (int x : new int[] {1, 5, 16, 31, -1, -5, -16, -200}) {
            int[] within = {0 - x, 31 - x};
            int[] without = {-1 - x, 32 - x};
            for (int i = 0; i < 2; i++) {
                if (within[i] >= 0 && within[i] <= 255) {
                    CHECK.due("A = [" + within[i] + " + " + x + "]", atX(Rig.LOAD_AT, within[i], x),
                            "3 1 4 4 " + (i == 0 ? Rig.op(Rig.LOAD_X, 4) : 0) + " " + x);
                    CHECK.due("[" + within[i] + " + " + x + "] = A", atX(Rig.STORE_AT, within[i], x),
                            "3 1 4 4 9 " + x);
                }
                for (int kind : new int[] {Rig.LOAD_AT, Rig.STORE_AT}) {
                    if (without[i] >= 0 && without[i] <= 255) {
                        CHECK.due("kind " + kind + " at " + without[i] + " + " + x, atX(kind, without[i], x),
                                "3 4 2 2 9 " + x);
                    }
                }
            }
        }
        for (int x : new int[] {MOST, MOST - 254, MOST - 255, LEAST, LEAST + 31, -256, 256, 65536}) {
            for (int a : new int[] {0, 1, 255}) {
                CHECK.due("far out, " + a + " + " + x, atX(Rig.LOAD_AT, a, x).equals("3 4 2 2 9 " + x),
                        a + (long) x < 0 || a + (long) x > 31);
            }
        }
    }

    /** A = first; A = A kind second; end. */
    private static void computes(int kind, int first, int second, int result) {
        int[] program = {Rig.op(Rig.LOAD, 4), Rig.op(kind, 5), Rig.END, 0, first, second};
        ends(first + " kind " + kind + " " + second, 1, program, "3 1 3 3 " + result + " 0");
    }

    /** "(going round)". */
    private static void goingRound() {
        computes(Rig.ADD, MOST - 1, 1, MOST);
        computes(Rig.ADD, MOST, 1, LEAST);
        computes(Rig.ADD, LEAST + 1, -1, LEAST);
        computes(Rig.ADD, LEAST, -1, MOST);
        computes(Rig.ADD, MOST, MOST, -2);
        computes(Rig.ADD, LEAST, LEAST, 0);
        computes(Rig.SUB, LEAST + 1, 1, LEAST);
        computes(Rig.SUB, LEAST, 1, MOST);
        computes(Rig.SUB, MOST - 1, -1, MOST);
        computes(Rig.SUB, MOST, -1, LEAST);
        computes(Rig.SUB, 0, LEAST, LEAST);
        computes(Rig.SUB, LEAST, MOST, 1);
        computes(Rig.MUL, 46340, 46340, 2147395600);
        computes(Rig.MUL, 46341, 46341, -2147479015);
        computes(Rig.MUL, 65536, 32767, 2147418112);
        computes(Rig.MUL, 65536, 32768, LEAST);
        computes(Rig.MUL, 65536, 65536, 0);
        computes(Rig.MUL, LEAST, -1, LEAST);
        computes(Rig.MUL, MOST, MOST, 1);
    }

    /** "cut towards 0, -2147483648 / -1 is -2147483648; by 0 TRAP". */
    private static void divisions() {
        computes(Rig.DIV, 6, 3, 2);
        computes(Rig.DIV, 7, 3, 2);
        computes(Rig.DIV, 8, 3, 2);
        computes(Rig.DIV, -6, 3, -2);
        computes(Rig.DIV, -7, 3, -2);
        computes(Rig.DIV, -8, 3, -2);
        computes(Rig.DIV, 8, -3, -2);
        computes(Rig.DIV, -8, -3, 2);
        computes(Rig.DIV, 1, 2, 0);
        computes(Rig.DIV, -1, 2, 0);
        computes(Rig.DIV, 0, -5, 0);
        computes(Rig.DIV, 9, 1, 9);
        computes(Rig.DIV, 9, -1, -9);
        computes(Rig.DIV, LEAST, -1, LEAST);
        computes(Rig.DIV, LEAST + 1, -1, MOST);
        computes(Rig.DIV, LEAST, 1, LEAST);
        computes(Rig.DIV, LEAST, LEAST, 1);
        computes(Rig.DIV, MOST, LEAST, 0);
        for (int a : new int[] {0, 1, -1, LEAST, MOST}) {
            int[] program = {Rig.op(Rig.LOAD, 4), Rig.op(Rig.DIV, 5), Rig.END, 0, a, 0};
            ends(a + " by 0", 1, program, "3 4 1 1 " + a + " 0");
        }
    }

    /** The jumps' own edges: below 0 is not 0. */
    private static void signs() {
        for (int a : new int[] {LEAST, -1, 0, 1, MOST}) {
            int[] below = {Rig.op(Rig.LOAD, 5), Rig.op(Rig.JUMP_NEG, 4), Rig.END, 0, Rig.END, a};
            ends("8 with A " + a, 1, below, "3 1 3 " + (a < 0 ? 5 : 3) + " " + a + " 0");
            int[] zero = {Rig.op(Rig.LOAD, 5), Rig.op(Rig.JUMP_ZERO, 4), Rig.END, 0, Rig.END, a};
            ends("9 with A " + a, 1, zero, "3 1 3 " + (a == 0 ? 5 : 3) + " " + a + " 0");
        }
    }

    /** "If it has done LIMIT instructions: with 2". */
    private static void theLimit() {
        for (int limit = 1; limit <= 12; limit++) {
            int[] program = new int[16];
            Arrays.fill(program, Rig.op(Rig.SET, 1));
            program[limit - 1] = Rig.END;
            CHECK.due("the end is instruction " + limit, Rig.ran(1, limit, 0, program).x.job(0, 1), 1);
            program[limit - 1] = -1;
            CHECK.due("a trap would be instruction " + limit, Rig.ran(1, limit, 0, program).x.job(0, 1), 4);
            program[limit - 1] = Rig.op(Rig.SET, 2);
            for (int next : new int[] {Rig.END, -1, Rig.op(Rig.GET, 0), Rig.op(Rig.LOAD, 200)}) {
                program[limit] = next;
                CHECK.due("the word " + next + " stands behind the limit " + limit,
                        Rig.ran(1, limit, 0, program).registers(0), "3 2 " + limit + " " + limit + " 2 0");
            }
        }
        Rig rig = Rig.ran(1, 16, 0, new int[] {Rig.op(Rig.JUMP, 255)});
        CHECK.due("PLACE outside within the limit", rig.registers(0), "3 4 1 255 0 0");
        rig = Rig.ran(1, 1, 0, new int[] {Rig.op(Rig.JUMP, 255)});
        CHECK.due("PLACE outside behind the limit", rig.registers(0), "3 2 1 255 0 0");
        rig = Rig.ran(2, 1, 0, new int[] {Rig.op(Rig.JUMP, 16)});
        CHECK.due("no segment is wanted behind the limit", rig.registers(0) + " " + rig.x.about(9), "3 2 1 16 0 0 1");
    }

    /** Instructions that others do for a waiting job count, those that are only tried do not. */
    private static void theLimitOfWaits() {
        int[] program = {Rig.op(Rig.GET, 0), Rig.op(Rig.READ), Rig.op(Rig.LOAD, 20), Rig.op(Rig.LOAD, 40), Rig.END};
        String[] due = {"", "3 2 1 1 0 0", "3 2 2 2 77 0", "3 2 3 3 0 0", "3 2 4 4 0 0", "3 1 5 5 0 0"};
        for (int limit = 1; limit <= 5; limit++) {
            CHECK.due("limit " + limit, Rig.ran(3, limit, 1, program, 77).registers(0), due[limit]);
        }
    }

    /** "If it is told to cancel" is looked at ahead of the limit, and the ending ahead of both. */
    private static void cancelledAtTheLimit() {
        Rig rig = new Rig(4, 1, 9);
        rig.load(1, 2, 0, Rig.ints(Rig.op(Rig.SET, 3), Rig.op(Rig.ASK), Rig.END));
        rig.line("A0");
        rig.settle();
        rig.line("R0 8");
        rig.line("C0");
        rig.x.tick(2);
        CHECK.due("at its limit, told to cancel", rig.all(0), "2 0 2 2 8 0 0 0 0 0 0 0 1");
        rig.x.tick(2);
        CHECK.due("cancelled", rig.registers(0) + " " + rig.said(), "3 5 2 2 8 0 0?/0=5/");

        rig = new Rig(4, 1, 9);
        rig.load(1, 2, 0, Rig.ints(Rig.op(Rig.SET, 3), Rig.op(Rig.SET, 4), Rig.END));
        rig.line("A0");
        rig.x.tick(3);
        rig.x.done(0);
        rig.x.tick(3);
        rig.line("C0");
        CHECK.due("at its limit", rig.registers(0) + " " + rig.row(), "2 0 2 2 4 0 09");
        rig.x.tick(1);
        CHECK.due("it begins to end ahead of the console", rig.row() + " " + rig.x.job(0, 12), "09 0");
        rig.x.tick(1);
        CHECK.due("over with 2", rig.registers(0), "3 2 2 2 4 0");
        rig.x.tick(1);
        CHECK.due("too late", rig.said() + rig.x.job(0, 12), "0=2/?/0");
    }

    /** Told to cancel between its last step and its ending, it keeps what it began to end with. */
    private static void cancelledWhileEnding() {
        int[] words = {Rig.END, -1, Rig.op(Rig.GET, 0)};
        int[] outcomes = {1, 4, 3};
        for (int i = 0; i < 3; i++) {
            Rig rig = new Rig(4, 1, 1);
            rig.load(1, 9, 0, Rig.ints(words[i]));
            rig.line("A0");
            rig.x.tick(3);
            rig.x.done(0);
            rig.x.tick(1);
            rig.line("C0");
            CHECK.due("the row", rig.row(), "09");
            rig.x.tick(1);
            CHECK.due("it begins to end", rig.row() + " " + rig.x.job(0, 0), "90 2");
            rig.x.tick(1);
            CHECK.due("told to cancel", rig.row() + " " + rig.x.job(0, 12) + rig.said(), "0 1");
            rig.x.tick(1);
            CHECK.due("over", rig.x.job(0, 0) + " " + rig.x.job(0, 1) + " " + rig.said(),
                    "3 " + outcomes[i] + " 0=" + outcomes[i] + "/");
        }
    }

    public static void main(String[] args) {
        kinds();
        places();
        addresses();
        addressesWithX();
        goingRound();
        divisions();
        signs();
        theLimit();
        theLimitOfWaits();
        cancelledAtTheLimit();
        cancelledWhileEnding();
        CHECK.finish();
    }
}
