/** Promise 4: tick, and PART 1: the ready row, the quantum, signals. */
public final class Promise04Test {
    private static final Check CHECK = new Check();

    private static void theNumber() {
        DrumLayers x = new DrumLayers(4, 1, 1);
        CHECK.due("tick(0)", x.tick(0), 0);
        CHECK.due("tick(1)", x.tick(1), 1);
        CHECK.due("tick(200)", x.tick(200), 201);
        CHECK.due("tick(201)", x.tick(201), -1);
        CHECK.due("tick(-1)", x.tick(-1), -1);
        CHECK.due("tick(least)", x.tick(Integer.MIN_VALUE), -1);
        CHECK.due("tick(most)", x.tick(Integer.MAX_VALUE), -1);
        CHECK.due("tick(0) behind wrong ones", x.tick(0), 201);
        CHECK.due("about(0)", x.about(0), 201);
    }

    private static void stepIs(Rig rig, String when, String row, String waits) {
        rig.x.tick(1);
        CHECK.due(when + ", the row", rig.row(), row);
        CHECK.due(when + ", the waits", rig.waits(), waits);
    }

    private static void aJobFromAdmissionToItsEnd() {
        Rig rig = new Rig(4, 2, 3);
        rig.load(2, 100, 0, Rig.ints(Rig.op(Rig.SET, 7), Rig.op(Rig.STORE, 20), Rig.END));
        rig.line("A0");
        CHECK.due("typed", rig.row() + " " + rig.waits(), "9 0000007770");
        stepIs(rig, "admitted", "0", "0000007777");
        stepIs(rig, "wants segment 0", "6", "1000000777");
        stepIs(rig, "the drum begins", "", "1000008777");
        stepIs(rig, "nothing can go on", "", "1000008777");
        rig.x.done(0);
        CHECK.due("the drum is done", rig.row() + " " + rig.waits(), "6 1000000777");
        stepIs(rig, "brought", "0", "0000007777");
        CHECK.due("not yet tried anew", rig.registers(0), "2 0 0 0 0 0");
        stepIs(rig, "A = 7", "0", "0000007777");
        CHECK.due("A = 7", rig.registers(0), "2 0 1 1 7 0");
        stepIs(rig, "wants segment 1", "6", "1000000777");
        CHECK.due("not done", rig.registers(0), "2 0 1 1 7 0");
        rig.x.tick(1);
        rig.x.done(0);
        stepIs(rig, "brought too", "0", "0000007777");
        stepIs(rig, "stored", "0", "0000007777");
        CHECK.due("stored", rig.registers(0), "2 0 2 2 7 0");
        stepIs(rig, "end", "0", "0000007777");
        CHECK.due("end is done like others", rig.registers(0), "2 0 3 3 7 0");
        stepIs(rig, "over", "", "0000007777");
        CHECK.due("over", rig.registers(0), "3 1 3 3 7 0");
        CHECK.due("said", rig.said(), "0=1/");
    }

    private static void theQuantumOfTwoJobs() {
        Rig rig = new Rig(4, 1, 2);
        rig.load(1, 100, 0, Rig.ints(Rig.op(Rig.JUMP, 0)));
        rig.load(1, 100, 0, Rig.ints(Rig.op(Rig.JUMP, 0)));
        rig.line("A0");
        rig.line("A1");
        stepIs(rig, "the console goes on, its count above 0", "90", "0000007770");
        stepIs(rig, "the console has had nothing more", "01", "0000007777");
        stepIs(rig, "0 wants", "16", "1000000777");
        stepIs(rig, "1 wants", "6", "1100000777");
        stepIs(rig, "the drum reads", "", "1100008777");
        rig.x.done(0);
        stepIs(rig, "brought for 0; WANTED counted one more", "60", "0100000777");
        stepIs(rig, "the drum reads again", "0", "0100008777");
        stepIs(rig, "0 steps", "0", "0100008777");
        rig.x.done(0);
        CHECK.due("6 behind 0", rig.row(), "06");
        stepIs(rig, "0 has had two steps", "60", "0100000777");
        stepIs(rig, "6 brings and waits", "01", "0000007777");
        stepIs(rig, "0, first step", "01", "0000007777");
        stepIs(rig, "0, second step", "10", "0000007777");
        stepIs(rig, "1, first step", "10", "0000007777");
        stepIs(rig, "1, second step", "01", "0000007777");
        CHECK.due("steps of 0", rig.x.job(0, 2), 4);
        CHECK.due("steps of 1", rig.x.job(1, 2), 2);
    }

    /** One that waited counts anew: its steps before the wait are not added to those behind it. */
    private static void waitingBeginsTheCountAnew() {
        Rig rig = new Rig(4, 1, 3);
        rig.load(2, 100, 0, Rig.ints(Rig.op(Rig.SET, 1), Rig.op(Rig.SET, 2), Rig.op(Rig.LOAD, 20),
                Rig.op(Rig.JUMP, 3)));
        rig.line("A0");
        rig.x.tick(3);
        rig.x.done(0);
        rig.x.tick(1);
        rig.x.tick(2);
        CHECK.due("two steps", rig.registers(0), "2 0 2 2 2 0");
        rig.x.tick(2);
        rig.x.done(0);
        rig.x.tick(1);
        CHECK.due("woken", rig.row(), "0");
        rig.line("");
        stepIs(rig, "first step behind the wait", "09", "0000007770");
        stepIs(rig, "second step", "09", "0000007770");
        stepIs(rig, "third step", "90", "0000007770");
    }

    /** A process of the system has a quantum too, and what it wakes stands before it then. */
    private static void theQuantumOfTheConsole() {
        Rig rig = new Rig(4, 1, 1);
        rig.load(1, 100, 0, Rig.ints(Rig.op(Rig.JUMP, 0)));
        rig.line("A0");
        rig.line("");
        rig.line("");
        stepIs(rig, "admits and goes behind", "09", "0000007770");
        stepIs(rig, "0 wants", "96", "1000000770");
        stepIs(rig, "second line", "69", "1000000770");
        stepIs(rig, "drum", "9", "1000008770");
        stepIs(rig, "third line", "", "1000008777");
        CHECK.due("said", rig.said(), "?/?/");
    }

    private static void manyTicksAreTicksOneByOne() {
        Rig many = new Rig(4, 1, 2);
        Rig single = new Rig(4, 1, 2);
        for (Rig rig : new Rig[] {many, single}) {
            rig.load(1, 5000, 0, Rig.ints(Rig.op(Rig.SET, 1), Rig.op(Rig.ADD, 0), Rig.op(Rig.JUMP, 1)));
            rig.line("A0");
            rig.x.tick(3);
            rig.x.done(0);
        }
        many.x.tick(57);
        for (int i = 0; i < 57; i++) {
            single.x.tick(1);
        }
        CHECK.due("57 ticks", many.registers(0), single.registers(0));
        CHECK.due("57 ticks", many.x.job(0, 2), 56);
    }

    public static void main(String[] args) {
        theNumber();
        aJobFromAdmissionToItsEnd();
        theQuantumOfTwoJobs();
        waitingBeginsTheCountAnew();
        theQuantumOfTheConsole();
        manyTicksAreTicksOneByOne();
        CHECK.finish();
    }
}
