import java.util.Arrays;

/** The boundary cases of PART 4: what can be got and given, the claims, what is SAFE. */
public final class EdgesOfPart4Test {
    private static final Check CHECK = new Check();

    private static int get(int a) {
        return Rig.op(Rig.GET, a);
    }

    private static int give(int a) {
        return Rig.op(Rig.GIVE, a);
    }

    /** "GET a (0 reader, 1 printer, 2 a page; TRAP for others)". */
    private static void whatCanBeGot() {
        String[] held = {"1 0 0", "0 1 0", "0 0 1"};
        for (int a = 0; a <= 2; a++) {
            Rig rig = Rig.ran(1, 50, 7, Rig.ints(get(a), Rig.END));
            CHECK.due("GET " + a, rig.registers(0) + ", " + rig.held(0), "3 1 2 2 0 0, " + held[a]);
        }
        for (int a : new int[] {3, 4, 7, 128, 255}) {
            Rig rig = Rig.ran(1, 50, 7, Rig.ints(get(a), Rig.END));
            CHECK.due("GET " + a, rig.registers(0) + ", " + rig.held(0), "3 4 0 0 0 0, 0 0 0");
        }
        CHECK.due("GET 3 without a claim is a TRAP", Rig.ran(1, 50, 0, Rig.ints(get(3))).registers(0), "3 4 0 0 0 0");
    }

    /** "if the job would hold more than it claims: it begins to end with 3 (no step)". */
    private static void theClaims() {
        for (int pages = 0; pages <= 6; pages++) {
            for (int both = 0; both <= 3; both++) {
                for (int a = 0; a <= 2; a++) {
                    int may = a == 2 ? pages : both >> a & 1;
                    int[] program = new int[may + 1];
                    Arrays.fill(program, get(a));
                    Rig rig = new Rig(4, 6, 9);
                    rig.load(1, 50, 4 * pages + both, program);
                    rig.line("A0");
                    rig.x.tick(3);
                    rig.x.done(0);
                    rig.x.tick(1 + may);
                    String what = "claims " + (4 * pages + both) + ", GET " + a;
                    CHECK.due(what + ", all it may have", rig.x.job(0, 6 + a) + " " + rig.x.job(0, 2), may + " " + may);
                    rig.x.tick(1);
                    CHECK.due(what + ", one more", rig.all(0).substring(0, 7), "2 0 " + may + " " + may);
                    CHECK.due(what + ", it does not wait", rig.row() + " " + rig.x.process(0, 1), "0 0");
                    rig.x.tick(1);
                    CHECK.due(what + ", over", rig.all(0).substring(0, 7) + rig.said(),
                            "3 3 " + may + " " + may + "0=3/");
                    CHECK.due(what + ", what it held stays shown", rig.x.job(0, 6 + a), may);
                }
            }
        }
    }

    /** The claim is looked at ahead of what is free: one that claims none does not wait. */
    private static void theClaimComesFirst() {
        for (int a = 0; a <= 2; a++) {
            Rig rig = new Rig(4, 1, 9);
            rig.load(1, 50, 7, Rig.ints(get(a), Rig.op(Rig.ASK)));
            rig.load(1, 50, 7 - (1 << a), Rig.ints(get(a), Rig.op(Rig.ASK)));
            rig.line("A0");
            rig.settle();
            rig.line("A1");
            rig.settle();
            CHECK.due("GET " + a + " of one that is not free", rig.registers(1), "3 3 0 0 0 0");
        }
    }

    /** Given back, it may be got again: what it holds counts, not what it has had. */
    private static void gotAgain() {
        for (int a = 0; a <= 2; a++) {
            int[] program = {get(a), give(a), get(a), give(a), get(a), get(a)};
            CHECK.due("again and again " + a, Rig.ran(1, 50, 7, program).registers(0), "3 3 5 5 0 0");
        }
    }

    /** "GIVE a (TRAP if it holds none, or a is above 2)". */
    private static void whatCanBeGiven() {
        for (int a = 0; a <= 2; a++) {
            Rig rig = Rig.ran(1, 50, 7, Rig.ints(get(a), give(a), give(a)));
            CHECK.due("GIVE " + a + " of one, then of none", rig.registers(0) + ", " + rig.held(0),
                    "3 4 2 2 0 0, 0 0 0");
            for (int b = 0; b <= 2; b++) {
                if (b != a) {
                    rig = Rig.ran(1, 50, 7, Rig.ints(get(b), give(a)));
                    CHECK.due("GIVE " + a + " with only " + b, rig.registers(0), "3 4 1 1 0 0");
                }
            }
        }
        for (int a : new int[] {3, 4, 255}) {
            Rig rig = Rig.ran(1, 50, 7, Rig.ints(get(0), get(1), get(2), give(a)));
            CHECK.due("GIVE " + a, rig.registers(0) + ", " + rig.held(0), "3 4 3 3 0 0, 1 1 1");
            CHECK.due("GIVE " + a + ", free in the end", rig.free(), "1 1 2");
        }
        for (int pages = 1; pages <= 6; pages++) {
            int[] program = new int[2 * pages + 1];
            Arrays.fill(program, 0, pages, get(2));
            Arrays.fill(program, pages, 2 * pages + 1, give(2));
            Rig rig = new Rig(4, 6, 9);
            rig.load(1, 50, 4 * pages, program);
            rig.line("A0");
            rig.settle();
            CHECK.due(pages + " pages given", rig.registers(0), "3 4 " + 2 * pages + " " + 2 * pages + " 0 0");
            CHECK.due("all are free", rig.free(), "1 1 6");
        }
    }

    /** Whether one of the two, then the other, can have all that it claims. */
    private static boolean safe(int pages, int claim0, int hold0, int claim1, int hold1) {
        int free = pages - hold0 - hold1;
        boolean zeroFirst = claim0 - hold0 <= free && claim1 - hold1 <= free + hold0;
        boolean oneFirst = claim1 - hold1 <= free && claim0 - hold0 <= free + hold1;
        return free >= 0 && (zeroFirst || oneFirst);
    }

    private static int[] getting(int pages) {
        int[] program = new int[pages + 1];
        Arrays.fill(program, get(2));
        program[pages] = Rig.op(Rig.ASK);
        return program;
    }

    /** "If one is free and it is SAFE then, it has it. Else it waits in the row of GETS." */
    private static void allPairsOfClaims() {
        for (int pages = 1; pages <= 4; pages++) {
            for (int claim0 = 0; claim0 <= pages; claim0++) {
                for (int claim1 = 0; claim1 <= pages; claim1++) {
                    for (int hold0 = 0; hold0 <= claim0; hold0++) {
                        pairOfClaims(pages, claim0, hold0, claim1);
                    }
                }
            }
        }
    }

    private static void pairOfClaims(int pages, int claim0, int hold0, int claim1) {
        Rig rig = new Rig(4, pages, 9);
        rig.load(1, 50, 4 * claim0, getting(hold0));
        rig.load(1, 50, 4 * claim1, getting(claim1));
        rig.line("A0");
        rig.settle();
        rig.line("A1");
        rig.settle();
        int due = 0;
        while (due < claim1 && safe(pages, claim0, hold0, claim1, due + 1)) {
            due++;
        }
        String what = pages + " pages, claims " + claim0 + " and " + claim1 + ", " + hold0 + " held";
        CHECK.due(what + ": had", rig.x.job(1, 8), due);
        CHECK.due(what + ": waits", rig.x.process(1, 1), due < claim1 ? 6 : 5);
        CHECK.due(what + ": free", rig.x.about(6), pages - hold0 - due);
    }

    /** "all admitted jobs that are not over": one that only waits for admission, or is over, does not count. */
    private static void onlyAdmittedOnesCount() {
        Rig rig = new Rig(4, 2, 9);
        rig.load(1, 50, 8, getting(2));
        rig.load(1, 50, 8, getting(1));
        rig.line("A1");
        rig.settle();
        CHECK.due("job 0 waits for admission", rig.held(1) + " " + rig.x.process(1, 1), "0 0 1 5");
        rig.line("A0");
        rig.settle();
        CHECK.due("admitted, it would not be safe", rig.held(0) + " " + rig.x.process(0, 1), "0 0 0 6");
        rig.line("C1");
        rig.x.tick(2);
        CHECK.due("1 begins to end", rig.x.job(1, 0) + " " + rig.x.process(0, 1), "2 6");
        rig.x.tick(1);
        CHECK.due("1 is over", rig.x.job(1, 0) + " " + rig.held(0) + " " + rig.row(), "3 0 0 1 0");
        rig.settle();
        CHECK.due("0 has both", rig.held(0) + " " + rig.x.process(0, 1), "0 0 2 5");
    }

    /** Three jobs: an order of all three is asked for, whichever of them can begin. */
    private static void threeInAnOrder() {
        for (int hold2 = 0; hold2 <= 1; hold2++) {
            Rig rig = new Rig(6, 4, 9);
            rig.load(1, 50, 12, getting(1));
            rig.load(1, 50, 8, getting(1));
            rig.load(1, 50, 16, getting(hold2));
            for (int k = 0; k < 3; k++) {
                rig.line("A" + k);
                rig.settle();
            }
            // One is free: job 1 lacks one, then job 0 its two, then job 2 its three.
            CHECK.due("job 2 gets " + hold2, rig.held(2) + " " + rig.x.process(2, 1), "0 0 " + hold2 + " 5");
            CHECK.due("free", rig.free(), "1 1 " + (2 - hold2));
        }
        Rig rig = new Rig(6, 4, 9);
        rig.load(1, 50, 12, getting(1));
        rig.load(1, 50, 12, getting(1));
        rig.load(1, 50, 16, getting(1));
        for (int k = 0; k < 3; k++) {
            rig.line("A" + k);
            rig.settle();
        }
        CHECK.due("with a claim more none could begin", rig.held(2) + " " + rig.x.process(2, 1), "0 0 0 6");
    }

    /** Six jobs that can end in one order only, each one needing all that those ahead of it hold. */
    private static void sixInOneOrder() {
        for (int direction = 0; direction <= 1; direction++) {
            for (int more = -1; more <= 5; more++) {
                Rig rig = new Rig(12, 6, 9);
                for (int k = 0; k < 6; k++) {
                    int rank = direction == 0 ? k : 5 - k;
                    int claim = Math.min(6, rank + 1 + (rank == more ? 1 : 0));
                    rig.load(1, 50, 4 * claim, getting(1));
                    rig.line("A" + k);
                }
                rig.settle();
                // With one claim higher the job of that rank can't follow those ahead of it.
                boolean safe = more == -1 || more == 5;
                CHECK.due("direction " + direction + ", more " + more, rig.x.about(6), safe ? 0 : 1);
                CHECK.due("one of them waits", rig.waits().replaceAll("[^6]", ""), safe ? "" : "6");
            }
        }
    }

    /** The claims of every kind count: a job that lacks the one kind hinders the other. */
    private static void eachKindCounts() {
        for (int first = 0; first <= 2; first++) {
            for (int second = 0; second <= 2; second++) {
                if (first == second) {
                    continue;
                }
                for (int alone = 0; alone <= 1; alone++) {
                    int both = (1 << first) + (1 << second);
                    Rig rig = new Rig(4, 1, 9);
                    rig.load(1, 50, alone == 1 ? 1 << first : both, Rig.ints(get(first), Rig.op(Rig.ASK)));
                    rig.load(1, 50, both, Rig.ints(get(second), Rig.op(Rig.ASK)));
                    rig.line("A0");
                    rig.settle();
                    rig.line("A1");
                    rig.settle();
                    CHECK.due(first + " held, GET " + second + (alone == 1 ? ", not claimed by both" : ""),
                            rig.waits(), alone == 1 ? "5500007777" : "5600007777");
                }
            }
        }
    }

    /** One in the row that can't have its own stays, and those behind it are looked at all the same. */
    private static void whoCanNotStays() {
        Rig rig = new Rig(8, 1, 9);
        rig.load(1, 50, 6, Rig.ints(get(1), get(2), Rig.op(Rig.ASK), give(2), Rig.op(Rig.ASK), give(1),
                Rig.op(Rig.ASK)));
        rig.load(1, 50, 2, Rig.ints(get(1), Rig.op(Rig.ASK)));
        rig.load(1, 50, 4, Rig.ints(get(2), Rig.op(Rig.ASK)));
        for (int k = 0; k < 3; k++) {
            rig.line("A" + k);
            rig.settle();
        }
        CHECK.due("1 and 2 wait", rig.waits(), "5660007777");
        rig.line("R0 0");
        rig.settle();
        CHECK.due("0 gave the page: 2 has it", rig.waits() + ", " + rig.held(2), "5650007777, 0 0 1");
        rig.line("R0 0");
        rig.settle();
        CHECK.due("0 gave the printer: 1 has it", rig.waits() + ", " + rig.held(1), "5550007777, 0 1 0");
        rig.line("C0");
        rig.line("C2");
        rig.settle();
        CHECK.due("2 is over, and in the row no more", rig.free() + ", " + rig.held(2), "1 0 1, 0 0 1");
    }

    /** The row is gone through from its beginning: two wait for the same, the one that came first has it. */
    private static void fromItsBeginning() {
        Rig rig = new Rig(8, 2, 9);
        rig.load(1, 50, 8, Rig.ints(get(2), get(2), Rig.op(Rig.ASK), give(2), Rig.op(Rig.ASK), give(2),
                Rig.op(Rig.ASK)));
        for (int k = 1; k < 4; k++) {
            rig.load(1, 50, 4, getting(1));
        }
        for (int k : new int[] {0, 3, 1, 2}) {
            rig.line("A" + k);
            rig.settle();
        }
        CHECK.due("three wait", rig.waits(), "5666007777");
        rig.line("R0 0");
        rig.x.tick(2);
        CHECK.due("3 was the first", rig.row() + " " + rig.waits(), "03 0660007777");
        rig.settle();
        rig.line("R0 0");
        rig.x.tick(2);
        CHECK.due("then 1", rig.row() + " " + rig.waits(), "01 0065007777");
        rig.settle();
        rig.line("C3");
        rig.settle();
        CHECK.due("then 2", rig.waits() + " " + rig.held(2), "5550007777 0 0 1");
    }

    /** More than one may have what they wait for in one going through, in the row's order. */
    private static void severalAtOnce() {
        Rig rig = new Rig(8, 3, 9);
        rig.load(1, 50, 15, Rig.ints(get(0), get(1), get(2), get(2), get(2), Rig.op(Rig.ASK)));
        rig.load(1, 50, 4, getting(1));
        rig.load(1, 50, 2, Rig.ints(get(1), Rig.op(Rig.ASK)));
        rig.load(1, 50, 1, Rig.ints(get(0), Rig.op(Rig.ASK)));
        for (int k : new int[] {0, 2, 3, 1}) {
            rig.line("A" + k);
            rig.settle();
        }
        CHECK.due("three wait", rig.waits() + " " + rig.free(), "5666007777 0 0 0");
        rig.line("C0");
        rig.x.tick(3);
        CHECK.due("0 is over, all have theirs", rig.row() + " " + rig.waits(), "231 0000007777");
        CHECK.due("and their instruction is done", rig.registers(1) + "," + rig.registers(2) + "," + rig.registers(3),
                "2 0 1 1 0 0,2 0 1 1 0 0,2 0 1 1 0 0");
        CHECK.due("free", rig.free(), "0 0 2");
    }

    /** A job of no claims at all is no hindrance, and one alone can have everything. */
    private static void theWholeMachine() {
        for (int pages = 1; pages <= 6; pages++) {
            int[] program = new int[pages + 3];
            Arrays.fill(program, get(2));
            program[0] = get(0);
            program[1] = get(1);
            program[pages + 2] = Rig.op(Rig.ASK);
            Rig rig = new Rig(4, pages, 9);
            rig.load(1, 50, 4 * pages + 3, program);
            rig.load(1, 50, 0, getting(0));
            rig.line("A1");
            rig.line("A0");
            rig.settle();
            CHECK.due("all of " + pages, rig.held(0) + " " + rig.free() + " " + rig.waits(),
                    "1 1 " + pages + " 0 0 0 5500007777");
        }
    }

    public static void main(String[] args) {
        whatCanBeGot();
        theClaims();
        theClaimComesFirst();
        gotAgain();
        whatCanBeGiven();
        allPairsOfClaims();
        onlyAdmittedOnesCount();
        threeInAnOrder();
        sixInOneOrder();
        eachKindCounts();
        whoCanNotStays();
        fromItsBeginning();
        severalAtOnce();
        theWholeMachine();
        CHECK.finish();
    }
}
