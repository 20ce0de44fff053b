/** Promise 5: done, and what the devices move in PART 3 and PART 5. */
public final class Promise05Test {
    private static final Check CHECK = new Check();

    private static void nothingToDo() {
        DrumLayers x = new DrumLayers(4, 1, 1);
        for (int device : new int[] {0, 1, 2, 3, -1, Integer.MIN_VALUE, Integer.MAX_VALUE}) {
            CHECK.due("done(" + device + ") of a new object", x.done(device), false);
        }
    }

    private static void onlyTheOneThatWorks(Rig rig, int working) {
        for (int device = -1; device <= 3; device++) {
            if (device != working) {
                CHECK.due("done(" + device + ") while " + working + " works", rig.x.done(device), false);
            }
        }
        CHECK.due("done(" + working + ")", rig.x.done(working), true);
        CHECK.due("done(" + working + ") again", rig.x.done(working), false);
    }

    private static void theReading() {
        Rig rig = new Rig(4, 1, 1);
        rig.load(1, 9, 0, Rig.ints(Rig.op(Rig.SET, 3)));
        rig.line("A0");
        rig.x.tick(3);
        CHECK.due("the drum reads", rig.x.about(1), 2);
        onlyTheOneThatWorks(rig, 0);
        CHECK.due("the drum does nothing", rig.x.about(1), 0);
        CHECK.due("still busy", rig.frame(0), "busy");
        CHECK.due("brought is counted later", rig.x.about(9), 0);
        rig.x.tick(1);
        CHECK.due("brought", rig.frame(0) + " " + rig.x.about(9), "0.0p@4 1");
    }

    /** Job 0 changes its segments 1, 2 and 3 in four frames and wants segment 4 in the end. */
    private static Rig withWriting() {
        Rig rig = new Rig(4, 1, 9);
        rig.load(6, 50, 0, Rig.ints(Rig.op(Rig.SET, 5), Rig.op(Rig.STORE, 16), Rig.op(Rig.STORE, 32),
                Rig.op(Rig.STORE, 48), Rig.op(Rig.STORE, 64), Rig.op(Rig.ASK)));
        rig.line("A0");
        rig.x.tick(3);
        for (int i = 0; i < 3; i++) {
            rig.x.done(0);
            rig.x.tick(4);
        }
        rig.x.done(0);
        rig.x.tick(4);
        return rig;
    }

    private static void theWriting() {
        Rig rig = withWriting();
        CHECK.due("tick", rig.x.about(0), 19);
        CHECK.due("frames", rig.frames(4), "0.0@17 busy 0.2c@13 0.3c@17");
        CHECK.due("the drum writes", rig.x.about(1), 1);
        CHECK.due("the word that is being written", rig.x.word(0, 16), 5);
        onlyTheOneThatWorks(rig, 0);
        CHECK.due("the word that is written", rig.x.word(0, 16), 5);
        CHECK.due("the drum does nothing", rig.x.about(1), 0);
        rig.x.tick(1);
        CHECK.due("then it reads", rig.x.about(1), 2);
        CHECK.due("still the same frame", rig.frames(4), "0.0@17 busy 0.2c@13 0.3c@17");
        CHECK.due("done", rig.x.done(0), true);
        rig.x.tick(1);
        CHECK.due("brought", rig.frames(4), "0.0@17 0.4p@21 0.2c@13 0.3c@17");
        rig.x.tick(1);
        CHECK.due("stored", rig.frames(4), "0.0@22 0.4c@22 0.2c@13 0.3c@17");
        CHECK.due("still written", rig.x.word(0, 16), 5);
        CHECK.due("brought", rig.x.about(9), 5);
    }

    /** Job 1 takes the changed frame of job 0, which waits for a reply; the drum is writing. */
    private static Rig withWritingForAnother() {
        Rig rig = new Rig(4, 1, 9);
        rig.load(2, 50, 0, Rig.ints(Rig.op(Rig.SET, 5), Rig.op(Rig.STORE, 16), Rig.op(Rig.ASK)));
        rig.load(3, 50, 0, Rig.ints(Rig.op(Rig.LOAD, 16), Rig.op(Rig.LOAD, 32), Rig.op(Rig.ASK)));
        rig.line("A0");
        rig.settle();
        rig.line("A1");
        rig.x.tick(20);
        rig.x.done(0);
        rig.x.tick(20);
        rig.x.done(0);
        rig.x.tick(20);
        CHECK.due("job 0 waits for a reply", rig.x.process(0, 1), 5);
        CHECK.due("job 1 waits for a segment", rig.x.process(1, 1), 1);
        CHECK.due("frame 1", rig.frame(1), "busy");
        CHECK.due("writing", rig.x.about(1), 1);
        CHECK.due("the word that is being written", rig.x.word(0, 16), 5);
        return rig;
    }

    private static void whatIsWrittenOfAnother() {
        Rig rig = withWritingForAnother();
        rig.x.done(0);
        CHECK.due("written", rig.x.word(0, 16), 5);
        rig.settle();
        CHECK.due("frame 1", rig.x.frame(1, 0), 1);
        CHECK.due("still written", rig.x.word(0, 16), 5);
    }

    private static void nothingIsWrittenOfOneThatIsOver() {
        Rig rig = withWritingForAnother();
        rig.line("C0");
        rig.x.tick(3);
        CHECK.due("over while it is written", rig.registers(0), "3 5 2 2 5 0");
        CHECK.due("its other frame is free, the busy one busy", rig.frame(0) + " " + rig.frame(1), "free busy");
        CHECK.due("a word of one that is over", rig.x.word(0, 16), 0);
        CHECK.due("a new job", rig.load(2, 50, 0, Rig.ints(Rig.op(Rig.LOAD, 16), Rig.END)), 0);
        CHECK.due("its word", rig.x.word(0, 16), 0);
        CHECK.due("still writing", rig.x.about(1), 1);
        CHECK.due("done", rig.x.done(0), true);
        CHECK.due("its word then", rig.x.word(0, 16), 0);
        rig.settle();
        CHECK.due("job 1 has its segment", rig.x.process(1, 1), 5);
        rig.line("A0");
        rig.finish(0);
        CHECK.due("it read a 0", rig.registers(0), "3 1 2 2 0 0");
    }

    private static void theReader() {
        Rig rig = new Rig(4, 1, 9);
        rig.load(1, 50, 1, Rig.ints(Rig.op(Rig.GET, 0), Rig.op(Rig.READ), Rig.op(Rig.READ), Rig.END), 41, -42);
        rig.line("A0");
        rig.settle();
        CHECK.due("waits for a card", rig.waits(), "2000007877");
        CHECK.due("the reader works", rig.x.about(2), 1);
        onlyTheOneThatWorks(rig, 1);
        CHECK.due("the reader rests", rig.x.about(2), 0);
        CHECK.due("READING is woken", rig.row() + " " + rig.waits(), "7 2000007077");
        CHECK.due("no card yet", rig.registers(0) + " " + rig.moved(0), "2 0 1 1 0 0 0 0 0 0");
        rig.x.tick(1);
        CHECK.due("the card", rig.registers(0) + " " + rig.moved(0), "2 0 2 2 41 0 1 0 0 0");
        CHECK.due("the job is woken", rig.row() + " " + rig.waits(), "0 0000007777");
        rig.settle();
        onlyTheOneThatWorks(rig, 1);
        rig.settle();
        CHECK.due("the end", rig.registers(0) + " " + rig.moved(0), "3 1 4 4 -42 0 2 0 0 0");
    }

    private static void thePrinter() {
        Rig rig = new Rig(4, 1, 9);
        rig.load(1, 50, 6, Rig.ints(Rig.op(Rig.GET, 1), Rig.op(Rig.GET, 2), Rig.op(Rig.SET, 8),
                Rig.op(Rig.PRINT), Rig.op(Rig.SET, 9), Rig.op(Rig.PRINT), Rig.op(Rig.ASK)));
        rig.line("A0");
        rig.settle();
        CHECK.due("the printer works", rig.x.about(3), 1);
        CHECK.due("PRINTING waits for a device", rig.waits(), "5000007787");
        CHECK.due("two lines", rig.moved(0), "0 0 2 0");
        onlyTheOneThatWorks(rig, 2);
        CHECK.due("the printer rests", rig.x.about(3), 0);
        CHECK.due("not yet on paper", rig.moved(0), "0 0 2 0");
        rig.x.tick(1);
        CHECK.due("on paper", rig.moved(0) + " " + rig.paper(0), "0 1 1 0 8");
        CHECK.due("PRINTS was counted", rig.row() + " " + rig.waits(), "8 5000007707");
        rig.x.tick(1);
        CHECK.due("the second line", rig.waits() + " " + rig.x.about(3), "5000007787 1");
        onlyTheOneThatWorks(rig, 2);
        rig.x.tick(1);
        CHECK.due("on paper too", rig.moved(0) + " " + rig.paper(0), "0 2 0 0 8 9");
        CHECK.due("PRINTING waits for work", rig.waits(), "5000007777");
    }

    public static void main(String[] args) {
        nothingToDo();
        theReading();
        theWriting();
        whatIsWrittenOfAnother();
        nothingIsWrittenOfOneThatIsOver();
        theReader();
        thePrinter();
        CHECK.finish();
    }
}
