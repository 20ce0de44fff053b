/** Promise 12: about. */
public final class Promise12Test {
    private static final Check CHECK = new Check();

    private static String about(Rig rig) {
        StringBuilder text = new StringBuilder();
        for (int what = 0; what <= 10; what++) {
            text.append(what == 0 ? "" : " ").append(rig.x.about(what));
        }
        return text.toString();
    }

    private static void wrongOnes() {
        DrumLayers x = new DrumLayers(4, 1, 1);
        for (int what : new int[] {-1, 11, 12, 600, Integer.MIN_VALUE, Integer.MAX_VALUE}) {
            CHECK.due("about(" + what + ")", x.about(what), -1);
        }
    }

    private static void aWholeRun() {
        Rig rig = new Rig(4, 3, 9);
        rig.load(1, 50, 15, Rig.ints(Rig.op(Rig.GET, 0), Rig.op(Rig.GET, 2), Rig.op(Rig.READ), Rig.op(Rig.GET, 1),
                Rig.op(Rig.PRINT), Rig.op(Rig.ASK), Rig.op(Rig.GIVE, 0), Rig.END), 66);
        CHECK.due("submitted", about(rig), "0 0 0 0 1 1 3 0 0 0 0");
        rig.line("A0");
        CHECK.due("typed", about(rig), "0 0 0 0 1 1 3 0 0 0 1");
        rig.x.tick(1);
        CHECK.due("admitted", about(rig), "1 0 0 0 1 1 3 0 1 0 0");
        rig.x.tick(2);
        CHECK.due("the drum reads", about(rig), "3 2 0 0 1 1 3 0 1 0 0");
        rig.x.done(0);
        CHECK.due("done", about(rig), "3 0 0 0 1 1 3 0 1 0 0");
        rig.x.tick(1);
        CHECK.due("brought", about(rig), "4 0 0 0 1 1 3 0 1 1 0");
        rig.x.tick(1);
        CHECK.due("has the reader", about(rig), "5 0 0 0 0 1 3 0 1 1 0");
        rig.x.tick(1);
        CHECK.due("has a page", about(rig), "6 0 0 0 0 1 2 0 1 1 0");
        rig.x.tick(1);
        CHECK.due("asked for a card", about(rig), "7 0 0 0 0 1 2 0 1 1 0");
        rig.x.tick(1);
        CHECK.due("the reader works", about(rig), "8 0 1 0 0 1 2 0 1 1 0");
        rig.x.done(1);
        CHECK.due("it is done", about(rig), "8 0 0 0 0 1 2 0 1 1 0");
        rig.x.tick(2);
        CHECK.due("has the printer", about(rig), "10 0 0 0 0 0 2 0 1 1 0");
        rig.x.tick(2);
        CHECK.due("printed, and it asks", about(rig), "12 0 0 0 0 0 2 3 1 1 0");
        rig.x.tick(1);
        CHECK.due("the printer works", about(rig), "13 0 0 1 0 0 2 3 1 1 0");
        rig.x.done(2);
        CHECK.due("it is done", about(rig), "13 0 0 0 0 0 2 3 1 1 0");
        rig.line("R0 1");
        rig.line("?");
        CHECK.due("two lines", about(rig), "13 0 0 0 0 0 2 3 1 1 2");
        rig.x.tick(4);
        CHECK.due("on paper, replied, wrong line, reader given", about(rig), "17 0 0 0 1 0 2 5 1 1 0");
        rig.x.tick(2);
        CHECK.due("over", about(rig), "19 0 0 0 1 1 3 9 0 1 0");
        CHECK.due("said", rig.said(), "0?/?/0=1/");
    }

    private static void allSaidIsCounted() {
        Rig rig = new Rig(4, 1, 9);
        for (int batch = 1; batch <= 40; batch++) {
            for (int i = 0; i < 8; i++) {
                rig.x.type(10);
            }
            rig.x.tick(8);
            CHECK.due("bytes said", rig.x.about(7), 16 * batch);
        }
    }

    private static void jobsAdmitted() {
        Rig rig = new Rig(12, 1, 9);
        for (int k = 0; k < 6; k++) {
            rig.load(1, 50, 0, Rig.ints(Rig.op(Rig.ASK), Rig.END));
            CHECK.due("submitted ones do not count", rig.x.about(8), k);
            rig.line("A" + k);
            rig.settle();
            CHECK.due("admitted ones do", rig.x.about(8), k + 1);
        }
        CHECK.due("brought", rig.x.about(9), 6);
        rig.line("C3");
        rig.settle();
        CHECK.due("one is over", rig.x.about(8), 5);
    }

    public static void main(String[] args) {
        wrongOnes();
        aWholeRun();
        allSaidIsCounted();
        jobsAdmitted();
        CHECK.finish();
    }
}
