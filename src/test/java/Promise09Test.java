/** Promise 9: paper. */
public final class Promise09Test {
    private static final Check CHECK = new Check();

    private static void twoPapers() {
        Rig rig = new Rig(4, 1, 2);
        int[] program = {Rig.op(Rig.GET, 0), Rig.op(Rig.GET, 1), Rig.op(Rig.GET, 2), Rig.op(Rig.READ), Rig.op(Rig.PRINT),
            Rig.op(Rig.READ), Rig.op(Rig.PRINT), Rig.END};
        rig.load(1, 50, 7, program, -1, Integer.MIN_VALUE);
        rig.load(1, 50, 7, program, 300, Integer.MAX_VALUE);
        CHECK.due("no line yet", rig.x.paper(0, 0), 0);
        rig.line("A0");
        rig.line("A1");
        rig.finish(0);
        rig.finish(1);
        CHECK.due("paper of 0", rig.paper(0), "-1 " + Integer.MIN_VALUE);
        CHECK.due("paper of 1", rig.paper(1), "300 " + Integer.MAX_VALUE);
        int[][] none = {{0, 2}, {0, -1}, {1, 2}, {2, 0}, {5, 0}, {6, 0}, {-1, 0}, {0, Integer.MIN_VALUE},
            {0, Integer.MAX_VALUE}, {Integer.MAX_VALUE, 0}, {Integer.MIN_VALUE, 0}};
        for (int[] pair : none) {
            CHECK.due("paper(" + pair[0] + ", " + pair[1] + ")", rig.x.paper(pair[0], pair[1]), 0);
        }
        rig.load(1, 50, 0, Rig.ints(Rig.END));
        CHECK.due("gone with a new job", rig.x.paper(0, 0), 0);
        CHECK.due("the other's stays", rig.x.paper(1, 0), 300);
    }

    /** The printer prints for the one that holds it, whoever else is admitted. */
    private static void theHoldersPaper() {
        Rig rig = new Rig(6, 1, 2);
        rig.load(1, 50, 6, Rig.ints(Rig.op(Rig.ASK)));
        rig.load(1, 50, 6, Rig.ints(Rig.op(Rig.GET, 2), Rig.op(Rig.GET, 1), Rig.op(Rig.SET, 44), Rig.op(Rig.PRINT), 0));
        rig.load(1, 50, 6, Rig.ints(Rig.op(Rig.ASK)));
        for (int k = 0; k < 3; k++) {
            rig.line("A" + k);
            rig.settle();
        }
        rig.finish(1);
        CHECK.due("papers", rig.paper(0) + "," + rig.paper(1) + "," + rig.paper(2), ",44,");
    }

    private static void lineByLine() {
        Rig rig = new Rig(4, 1, 9);
        rig.load(2, 99, 6, Rig.ints(Rig.op(Rig.GET, 1), Rig.op(Rig.GET, 2), Rig.op(Rig.SET, 5), Rig.op(Rig.PRINT),
                Rig.op(Rig.ADD, 10), Rig.op(Rig.PRINT), Rig.op(Rig.JUMP, 4), 0, 0, 0, 100));
        rig.line("A0");
        rig.settle();
        CHECK.due("none on paper", rig.x.paper(0, 0), 0);
        StringBuilder due = new StringBuilder();
        for (int i = 0; i < 30; i++) {
            rig.x.done(2);
            rig.settle();
            due.append(i == 0 ? "" : " ").append(5 + 100 * i);
            CHECK.due("paper", rig.paper(0), due.toString());
            CHECK.due("the next is not there", rig.x.paper(0, i + 1), 0);
        }
    }

    public static void main(String[] args) {
        twoPapers();
        theHoldersPaper();
        lineByLine();
        CHECK.finish();
    }
}
