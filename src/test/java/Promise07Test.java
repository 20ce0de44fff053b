/** Promise 7: process, and the rows of PART 4 and PART 5. */
public final class Promise07Test {
    private static final Check CHECK = new Check();

    private static void wrongOnes() {
        Rig rig = new Rig(4, 1, 1);
        int[][] wrong = {{-1, 0}, {10, 0}, {-1, 1}, {10, 1}, {0, 2}, {9, 2}, {0, -1}, {6, 3},
            {Integer.MIN_VALUE, 1}, {Integer.MAX_VALUE, 1}, {1, Integer.MIN_VALUE}, {1, Integer.MAX_VALUE}};
        for (int[] pair : wrong) {
            CHECK.due("process(" + pair[0] + ", " + pair[1] + ")", rig.x.process(pair[0], pair[1]), -1);
        }
        for (int k = 0; k < 10; k++) {
            CHECK.due("place of " + k, rig.x.process(k, 0), -1);
            CHECK.due("wait of " + k, rig.x.process(k, 1), k < 6 ? 0 : 7);
        }
    }

    private static void oneNotAdmittedOrOver() {
        Rig rig = new Rig(4, 1, 1);
        rig.load(1, 9, 0, Rig.ints(Rig.END));
        CHECK.due("submitted", rig.x.process(0, 0) + " " + rig.x.process(0, 1), "-1 0");
        rig.line("A0");
        rig.finish(0);
        CHECK.due("over", rig.x.process(0, 0) + " " + rig.x.process(0, 1), "-1 0");
    }

    private static void thePlaces() {
        Rig rig = new Rig(12, 1, 9);
        for (int k = 0; k < 6; k++) {
            rig.load(1, 9, 0, Rig.ints(Rig.END));
            rig.line("A" + k);
        }
        rig.x.tick(6);
        CHECK.due("in the order of admission", rig.row(), "012345");
        rig.x.tick(1);
        CHECK.due("SEGMENTS comes behind", rig.row(), "123456");
        CHECK.due("place of 6", rig.x.process(6, 0), 5);
        CHECK.due("place of 1", rig.x.process(1, 0), 0);
        CHECK.due("place of 0", rig.x.process(0, 0), -1);
        rig.x.tick(2);
        rig.line("");
        CHECK.due("the console behind all", rig.row(), "34569");
    }

    /** Four lines are room for; the fifth waits, and is tried anew. */
    private static void roomAndEmptyLines() {
        Rig rig = new Rig(4, 2, 9);
        int[] program = new int[13];
        program[0] = Rig.op(Rig.GET, 1);
        program[1] = Rig.op(Rig.GET, 2);
        for (int i = 2; i < 7; i++) {
            program[i] = Rig.op(Rig.PRINT);
        }
        program[7] = Rig.op(Rig.GIVE, 2);
        program[8] = Rig.op(Rig.GET, 2);
        program[9] = Rig.op(Rig.PRINT);
        program[10] = Rig.op(Rig.GIVE, 1);
        program[11] = Rig.op(Rig.ASK);
        rig.load(1, 99, 10, program);
        rig.line("A0");
        rig.settle();
        CHECK.due("waits for room", rig.waits() + " " + rig.registers(0), "3000007787 2 0 6 6 0 0");
        CHECK.due("four lines", rig.moved(0), "0 0 4 0");
        rig.x.done(2);
        rig.x.tick(1);
        CHECK.due("room", rig.waits() + " " + rig.row(), "0000007707 80");
        CHECK.due("the fifth is not there yet", rig.moved(0), "0 1 3 0");
        rig.x.tick(1);
        CHECK.due("the printer again", rig.waits() + " " + rig.row(), "0000007787 0");
        rig.x.tick(1);
        CHECK.due("the fifth", rig.moved(0) + " " + rig.x.job(0, 2), "0 1 4 0 7");
        rig.x.tick(1);
        CHECK.due("gives the page only with empty lines", rig.waits() + " " + rig.held(0), "4000007787 0 1 1");
        for (int left = 3; left >= 1; left--) {
            rig.x.done(2);
            rig.settle();
            CHECK.due("with " + left + " lines", rig.waits() + " " + rig.x.job(0, 11), "4000007787 " + left);
        }
        rig.x.done(2);
        rig.x.tick(1);
        CHECK.due("empty", rig.waits() + " " + rig.row() + " " + rig.held(0), "0000007777 0 0 1 1");
        rig.x.tick(1);
        CHECK.due("given", rig.held(0) + " " + rig.free() + " " + rig.x.job(0, 2), "0 1 0 1 0 2 8");
        rig.settle();
        CHECK.due("gives the printer only with empty lines", rig.waits() + " " + rig.held(0), "4000007787 0 1 1");
        rig.x.done(2);
        rig.settle();
        CHECK.due("given", rig.waits() + " " + rig.held(0) + " " + rig.free(), "5000007777 0 0 1 1 1 1");
    }

    private static void twoPagesAreRoomForEight() {
        Rig rig = new Rig(4, 2, 9);
        int[] program = new int[13];
        java.util.Arrays.fill(program, Rig.op(Rig.PRINT));
        program[0] = Rig.op(Rig.GET, 1);
        program[1] = Rig.op(Rig.GET, 2);
        program[2] = Rig.op(Rig.GET, 2);
        rig.load(1, 99, 10, program);
        rig.line("A0");
        rig.settle();
        CHECK.due("eight lines", rig.waits() + " " + rig.moved(0), "3000007787 0 0 8 0");
    }

    private static void aResource() {
        Rig rig = new Rig(4, 2, 9);
        int[] program = {Rig.op(Rig.GET, 0), Rig.op(Rig.ASK), Rig.op(Rig.GIVE, 0), Rig.op(Rig.ASK)};
        rig.load(1, 99, 1, program);
        rig.load(1, 99, 1, program);
        rig.line("A0");
        rig.line("A1");
        rig.settle();
        CHECK.due("1 waits for the reader", rig.waits() + " " + rig.row(), "5600007777 ");
        CHECK.due("nothing of it is done", rig.registers(1) + " " + rig.held(1), "2 0 0 0 0 0 0 0 0");
        rig.line("R0 3");
        rig.x.tick(1);
        CHECK.due("0 goes on", rig.row(), "0");
        rig.x.tick(1);
        CHECK.due("it gives, 1 has it and is woken", rig.row() + " " + rig.waits(), "01 0000007777");
        CHECK.due("its instruction is done", rig.registers(1) + " " + rig.held(1), "2 0 1 1 0 0 1 0 0");
        CHECK.due("0 has none", rig.registers(0) + " " + rig.held(0), "2 0 3 3 3 0 0 0 0");
        CHECK.due("none is free", rig.free(), "0 1 2");
    }

    /** A job that waits in the row, or for a reply, is woken by its cancelling; others are not. */
    private static void cancelled() {
        Rig rig = new Rig(6, 2, 9);
        int[] program = {Rig.op(Rig.GET, 0), Rig.op(Rig.ASK)};
        rig.load(1, 99, 1, program);
        rig.load(1, 99, 1, program);
        rig.load(1, 99, 1, program);
        rig.line("A0");
        rig.line("A1");
        rig.line("A2");
        rig.settle();
        CHECK.due("they wait", rig.waits(), "5660007777");
        rig.line("C1");
        rig.x.tick(1);
        CHECK.due("1 is woken", rig.row() + " " + rig.waits() + " " + rig.x.job(1, 12), "1 5060007777 1");
        rig.line("C0");
        rig.x.tick(1);
        CHECK.due("1 begins to end", rig.registers(1), "2 0 0 0 0 0");
        rig.x.tick(1);
        CHECK.due("1 is over", rig.registers(1) + " " + rig.said(), "3 5 0 0 0 0 0?/1=5/");
        rig.x.tick(1);
        CHECK.due("0 is woken", rig.row() + " " + rig.waits(), "0 0060007777");
        rig.x.tick(2);
        CHECK.due("0 is over, 2 has the reader", rig.row() + " " + rig.held(2) + " " + rig.held(0), "2 1 0 0 1 0 0");
        rig.settle();
        CHECK.due("said", rig.said(), "0?/1=5/0=5/2?/");

        Rig slow = new Rig(4, 2, 9);
        slow.load(1, 99, 1, Rig.ints(Rig.op(Rig.GET, 0), Rig.op(Rig.READ)), 5);
        slow.line("A0");
        slow.x.tick(3);
        slow.line("C0");
        slow.x.tick(5);
        CHECK.due("not woken from its segment", slow.waits() + " " + slow.x.job(0, 12), "1000008777 1");
        slow.x.done(0);
        slow.settle();
        CHECK.due("it ends then", slow.registers(0), "3 5 0 0 0 0");
    }

    /** One that was cancelled in the row of GETS is no more in it when the resource is given. */
    private static void cancelledOnesLeaveTheRow() {
        Rig rig = new Rig(4, 2, 9);
        rig.load(1, 99, 1, Rig.ints(Rig.op(Rig.GET, 0), Rig.op(Rig.ASK), Rig.op(Rig.GIVE, 0), Rig.op(Rig.ASK)));
        rig.load(1, 99, 1, Rig.ints(Rig.op(Rig.GET, 0), Rig.op(Rig.ASK)));
        rig.line("A0");
        rig.line("A1");
        rig.settle();
        rig.line("C1");
        rig.settle();
        CHECK.due("1 is over", rig.waits() + " " + rig.registers(1), "5000007777 3 5 0 0 0 0");
        rig.line("R0 1");
        rig.settle();
        CHECK.due("the reader is free", rig.free() + " " + rig.held(1) + " " + rig.registers(1),
                "1 1 2 0 0 0 3 5 0 0 0 0");
        CHECK.due("nobody is woken", rig.row() + " " + rig.waits(), " 5000007777");
        rig.line("C0");
        rig.settle();
        CHECK.due("nor when all are over", rig.free() + " " + rig.held(1) + " " + rig.registers(1),
                "1 1 2 0 0 0 3 5 0 0 0 0");
    }

    private static void cancelledAtADevice() {
        Rig rig = new Rig(4, 1, 9);
        rig.load(1, 99, 7, Rig.ints(Rig.op(Rig.GET, 0), Rig.op(Rig.READ), Rig.op(Rig.GET, 1), Rig.op(Rig.GET, 2),
                Rig.op(Rig.JUMP, 5), Rig.op(Rig.PRINT), Rig.op(Rig.JUMP, 5)), 12);
        rig.line("A0");
        rig.settle();
        rig.line("C0");
        rig.line("C0");
        rig.settle();
        CHECK.due("not woken from its card", rig.waits() + " " + rig.said(), "2000007877 ");
        rig.x.done(1);
        rig.x.tick(1);
        CHECK.due("its card comes", rig.registers(0) + " " + rig.moved(0), "2 0 2 2 12 0 1 0 0 1");
        rig.settle();
        CHECK.due("over", rig.registers(0), "3 5 2 2 12 0");

        Rig full = new Rig(4, 1, 9);
        full.load(1, 99, 6, Rig.ints(Rig.op(Rig.GET, 1), Rig.op(Rig.GET, 2), Rig.op(Rig.PRINT), Rig.op(Rig.JUMP, 2)));
        full.line("A0");
        full.settle();
        full.line("C0");
        full.settle();
        CHECK.due("not woken from its room", full.waits() + " " + full.moved(0), "3000007787 0 0 4 1");
        full.x.done(2);
        full.settle();
        CHECK.due("ending, it waits for empty lines", full.waits() + " " + full.registers(0), "4000007787 2 0 10 2 0 0");
        for (int i = 0; i < 3; i++) {
            CHECK.due("not over", full.x.job(0, 0), 2);
            full.x.done(2);
            full.settle();
        }
        CHECK.due("over", full.registers(0) + " " + full.moved(0) + " " + full.said(), "3 5 10 2 0 0 0 4 0 1 0=5/");
    }

    public static void main(String[] args) {
        wrongOnes();
        oneNotAdmittedOrOver();
        thePlaces();
        roomAndEmptyLines();
        twoPagesAreRoomForEight();
        aResource();
        cancelled();
        cancelledOnesLeaveTheRow();
        cancelledAtADevice();
        CHECK.finish();
    }
}
