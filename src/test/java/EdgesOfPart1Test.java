/** The boundary cases of PART 1: the quantum, a row with one process, an empty row, signals that are counted. */
public final class EdgesOfPart1Test {
    private static final Check CHECK = new Check();

    /** So many jobs that do nothing but jump, in core, job 0 the first of the row with its count at 0. */
    private static Rig spinning(int quantum, int count) {
        Rig rig = new Rig(12, 1, quantum);
        for (int k = 0; k < count; k++) {
            rig.load(1, 5000, 0, Rig.ints(Rig.op(Rig.JUMP, 0)));
            rig.line("A" + k);
        }
        rig.untilAllRun();
        String last = rig.row();
        for (int i = 0; i < 100; i++) {
            rig.x.tick(1);
            if (rig.row().startsWith("0") && !last.startsWith("0")) {
                break;
            }
            last = rig.row();
        }
        return rig;
    }

    /** How many ticks it takes until process k is the first of the row. */
    private static int ticksUntilFirst(Rig rig, int k) {
        for (int ticks = 0; ticks <= 40; ticks++) {
            if (rig.x.process(k, 0) == 0) {
                return ticks;
            }
            rig.x.tick(1);
        }
        return -1;
    }

    /** "if it has done QUANTUM steps one behind the other, it comes to the end of the row". */
    private static void theQuantum() {
        for (int quantum = 1; quantum <= 9; quantum++) {
            Rig rig = spinning(quantum, 3);
            for (int turn = 0; turn < 4; turn++) {
                int first = turn % 3;
                int steps = rig.x.job(first, 2);
                String row = rig.row();
                CHECK.due("quantum " + quantum + ", the first", row.charAt(0), '0' + first);
                for (int step = 1; step < quantum; step++) {
                    rig.x.tick(1);
                    CHECK.due("quantum " + quantum + ", step " + step, rig.row(), row);
                }
                rig.x.tick(1);
                CHECK.due("quantum " + quantum + ", the last step", rig.row(), row.substring(1) + row.charAt(0));
                CHECK.due("quantum " + quantum + ", steps", rig.x.job(first, 2), steps + quantum);
            }
        }
    }

    /** A job alone in core; its count is at 0, as it has waited for its segment. */
    private static Rig alone(int quantum) {
        Rig rig = new Rig(4, 1, quantum);
        rig.load(1, 5000, 0, Rig.ints(Rig.op(Rig.JUMP, 0)));
        rig.line("A0");
        rig.x.tick(3);
        rig.x.done(0);
        rig.x.tick(1);
        return rig;
    }

    /** One alone comes to the end of the row, which is its beginning, and counts anew. */
    private static void aRowWithOne() {
        for (int quantum = 1; quantum <= 9; quantum++) {
            for (int before = 0; before <= 2 * quantum + 1; before++) {
                Rig rig = alone(quantum);
                for (int step = 0; step < before; step++) {
                    rig.x.tick(1);
                    CHECK.due("alone it stays the first", rig.row(), "0");
                }
                CHECK.due("each tick is a step", rig.x.job(0, 2), before);
                rig.line("");
                CHECK.due("the console stands behind it", rig.row(), "09");
                CHECK.due("quantum " + quantum + " behind " + before + " steps alone", ticksUntilFirst(rig, 9),
                        quantum - before % quantum);
            }
        }
    }

    /** "(and begins to count anew, as one does that waited)": the steps ahead of a wait do not count. */
    private static void countingAnewBehindAWait() {
        for (int quantum = 1; quantum <= 9; quantum++) {
            for (int before = 0; before < 10; before++) {
                Rig rig = new Rig(4, 1, quantum);
                int[] program = new int[12];
                java.util.Arrays.fill(program, Rig.op(Rig.SET, 1));
                program[before] = Rig.op(Rig.ASK);
                program[before + 1] = Rig.op(Rig.JUMP, before + 1);
                rig.load(1, 5000, 0, program);
                rig.line("A0");
                rig.settle();
                rig.line("R0 1");
                rig.x.tick(1);
                CHECK.due("woken", rig.row() + " " + rig.x.job(0, 2), "0 " + (before + 1));
                rig.line("");
                CHECK.due("quantum " + quantum + ", a wait behind " + before, ticksUntilFirst(rig, 9), quantum);
            }
        }
    }

    /** A process that is not a job has its quantum too, and counts anew when it waited. */
    private static void theQuantumOfTheConsole() {
        for (int quantum = 1; quantum <= 9; quantum++) {
            Rig rig = alone(quantum);
            for (int i = 0; i < 8; i++) {
                rig.x.type(10);
            }
            CHECK.due("quantum " + quantum + ", job 0", ticksUntilFirst(rig, 9), quantum);
            int ticks = ticksUntilFirst(rig, 0);
            CHECK.due("quantum " + quantum + ", the console", ticks, Math.min(quantum, 8));
            CHECK.due("quantum " + quantum + ", lines left", rig.x.about(10), 8 - Math.min(quantum, 8));
            CHECK.due("quantum " + quantum + ", the row", rig.row(), quantum < 8 ? "09" : "0");
        }
    }

    /** "the first of the row, if there is one, does one STEP." */
    private static void anEmptyRow() {
        Rig rig = new Rig(4, 1, 3);
        CHECK.due("a new object's row", rig.row(), "");
        String before = rig.whole().replace("|0 0 0 0 1 1 1 ", "|T 0 0 0 1 1 1 ");
        for (int i = 1; i <= 5; i++) {
            CHECK.due("a tick of nobody", rig.x.tick(1), i);
        }
        CHECK.due("many", rig.x.tick(200), 205);
        CHECK.due("nothing else has changed", rig.whole().replace("|205 0 0 0 1 1 1 ", "|T 0 0 0 1 1 1 "), before);
        rig.load(1, 50, 0, Rig.ints(Rig.op(Rig.SET, 4), Rig.op(Rig.ASK)));
        rig.line("A0");
        rig.x.tick(3);
        CHECK.due("all wait", rig.row() + " " + rig.waits(), " 1000008777");
        rig.x.tick(100);
        CHECK.due("they wait on", rig.row() + " " + rig.waits() + " " + rig.x.about(0), " 1000008777 308");
        rig.x.done(0);
        rig.x.tick(2);
        CHECK.due("then they go on", rig.all(0), "2 0 1 1 4 0 0 0 0 0 0 0 0");
    }

    /** LINES: the first V wakes, the next ones are counted; each P takes one. */
    private static void linesAreCounted() {
        for (int lines = 1; lines <= 8; lines++) {
            Rig rig = new Rig(4, 1, 9);
            CHECK.due("it waits", rig.row() + " " + rig.waits(), " 0000007777");
            for (int i = 1; i <= lines; i++) {
                rig.x.type(10);
                CHECK.due("woken once", rig.row() + " " + rig.waits(), "9 0000007770");
            }
            for (int i = 1; i < lines; i++) {
                rig.x.tick(1);
                CHECK.due("it goes on", rig.row() + " " + rig.x.about(10) + " " + rig.x.about(7),
                        "9 " + (lines - i) + " " + 2 * i);
            }
            rig.x.tick(1);
            CHECK.due("the last", rig.row() + " " + rig.waits() + " " + rig.x.about(7), " 0000007777 " + 2 * lines);
            rig.x.tick(5);
            CHECK.due("no step more", rig.x.about(7), 2 * lines);
            rig.x.type(10);
            CHECK.due("no count is left, it is woken anew", rig.row(), "9");
            rig.x.tick(1);
            CHECK.due("for one step", rig.row() + rig.x.about(7), String.valueOf(2 * lines + 2));
        }
    }

    /** PRINTS: counted while PRINTING waits for the printer, which is another signal. */
    private static void printsAreCounted() {
        for (int lines = 1; lines <= 4; lines++) {
            Rig rig = new Rig(4, 1, 9);
            int[] program = new int[lines + 3];
            java.util.Arrays.fill(program, Rig.op(Rig.PRINT));
            program[0] = Rig.op(Rig.GET, 1);
            program[1] = Rig.op(Rig.GET, 2);
            program[lines + 2] = Rig.op(Rig.ASK);
            rig.load(1, 50, 6, program);
            rig.line("A0");
            rig.settle();
            for (int i = 1; i <= lines; i++) {
                CHECK.due("the printer works", rig.row() + " " + rig.waits(), " 5000007787");
                CHECK.due("lines", rig.x.job(0, 10) + " " + rig.x.job(0, 11), (i - 1) + " " + (lines - i + 1));
                rig.x.done(2);
                CHECK.due("woken by its device", rig.row() + " " + rig.waits(), "8 5000007707");
                rig.x.tick(1);
                CHECK.due("line " + i + " of " + lines, rig.row() + " " + rig.waits() + " " + rig.x.about(3),
                        i < lines ? "8 5000007707 0" : " 5000007777 0");
                rig.x.tick(1);
            }
            CHECK.due("no line more", rig.x.about(3) + " " + rig.x.job(0, 10), "0 " + lines);
        }
    }

    /** WANTED: six jobs ask while SEGMENTS waits for the drum; it serves them one behind the other. */
    private static void wantedIsCounted() {
        Rig rig = new Rig(12, 1, 9);
        for (int k = 0; k < 6; k++) {
            rig.load(1, 50, 0, Rig.ints(Rig.op(Rig.ASK)));
            rig.line("A" + k);
        }
        rig.x.tick(13);
        CHECK.due("all ask, and the drum reads", rig.row() + " " + rig.waits(), " 1111118777");
        for (int k = 0; k < 6; k++) {
            CHECK.due("the drum reads", rig.x.about(1), 2);
            CHECK.due("done", rig.x.done(0), true);
            CHECK.due("woken by the drum", rig.row(), "6");
            rig.x.tick(1);
            CHECK.due("job " + k + " is woken, a count is " + (k < 5 ? "" : "not ") + "left",
                    rig.row() + " " + rig.x.about(9), (k < 5 ? "6" : "") + k + " " + (k + 1));
            rig.x.tick(k < 5 ? 2 : 1);
            CHECK.due("it asks", rig.process(k), "-1 5");
        }
        CHECK.due("SEGMENTS waits for work", rig.waits(), "5555557777");
        CHECK.due("the drum rests", rig.x.about(1) + " " + rig.x.done(0), "0 false");
    }

    /** A V of WANTED wakes SEGMENTS only out of its wait for WANTED. */
    private static void anotherSignalDoesNotWake() {
        Rig rig = new Rig(4, 1, 9);
        rig.load(1, 50, 0, Rig.ints(Rig.op(Rig.ASK)));
        rig.load(1, 50, 0, Rig.ints(Rig.op(Rig.ASK)));
        rig.line("A0");
        rig.x.tick(3);
        CHECK.due("SEGMENTS waits for the drum", rig.row() + " " + rig.waits(), " 1000008777");
        rig.line("A1");
        rig.x.tick(1);
        CHECK.due("job 1 is admitted", rig.row() + " " + rig.waits(), "1 1000008777");
        rig.x.tick(1);
        CHECK.due("its V is counted", rig.row() + " " + rig.waits(), " 1100008777");
        rig.x.done(0);
        rig.x.tick(1);
        CHECK.due("P finds it", rig.row() + " " + rig.waits(), "60 0100000777");
        rig.x.tick(1);
        CHECK.due("its next step comes in the next tick that it has", rig.row() + " " + rig.waits(), "0 0100008777");
    }

    public static void main(String[] args) {
        theQuantum();
        aRowWithOne();
        countingAnewBehindAWait();
        theQuantumOfTheConsole();
        anEmptyRow();
        linesAreCounted();
        printsAreCounted();
        wantedIsCounted();
        anotherSignalDoesNotWake();
        CHECK.finish();
    }
}
